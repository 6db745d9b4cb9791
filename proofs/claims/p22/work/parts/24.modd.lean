def FX3_forgetLeaves_6 (x1 x2 x3 : Int32) : Nat → (Nat → Int32) → Int32 → Int32 → Int32 → Option ((Nat → Int32) × Int32)
  | 0, _, _, _, _ => none
  | n + 1, mL, mnL, v4, v5 => if mnL ≤ v5 then some (mL, v4) else if x1 = (-1) then FX3_forgetLeaves_6 x1 x2 x3 n mL mnL v4 (v5 + 1) else gd (inb ((5 : Int32) * v5) 30) (if (mL ((5 : Int32) * v5).toNatClampNeg) = x1 then if x3 = 0 then FX3_forgetLeaves_6 x1 x2 x3 n mL mnL v4 (v5 + 1) else if x2 < 0 then gd (inb (((5 : Int32) * v5) + 0) 30) (gd (inb (((5 : Int32) * v4) + 0) 30) (gd (inb (((5 : Int32) * v5) + 1) 30) (gd (inb (((5 : Int32) * v4) + 1) 30) (gd (inb (((5 : Int32) * v5) + 2) 30) (gd (inb (((5 : Int32) * v4) + 2) 30) (gd (inb (((5 : Int32) * v5) + 3) 30) (gd (inb (((5 : Int32) * v4) + 3) 30) (gd (inb (((5 : Int32) * v5) + 4) 30) (gd (inb (((5 : Int32) * v4) + 4) 30) (FX3_forgetLeaves_6 x1 x2 x3 n (upd (upd (upd (upd (upd mL (((5 : Int32) * v4) + 0).toNatClampNeg (mL (((5 : Int32) * v5) + 0).toNatClampNeg)) (((5 : Int32) * v4) + 1).toNatClampNeg ((upd mL (((5 : Int32) * v4) + 0).toNatClampNeg (mL (((5 : Int32) * v5) + 0).toNatClampNeg)) (((5 : Int32) * v5) + 1).toNatClampNeg)) (((5 : Int32) * v4) + 2).toNatClampNeg ((upd (upd mL (((5 : Int32) * v4) + 0).toNatClampNeg (mL (((5 : Int32) * v5) + 0).toNatClampNeg)) (((5 : Int32) * v4) + 1).toNatClampNeg ((upd mL (((5 : Int32) * v4) + 0).toNatClampNeg (mL (((5 : Int32) * v5) + 0).toNatClampNeg)) (((5 : Int32) * v5) + 1).toNatClampNeg)) (((5 : Int32) * v5) + 2).toNatClampNeg)) (((5 : Int32) * v4) + 3).toNatClampNeg ((upd (upd (upd mL (((5 : Int32) * v4) + 0).toNatClampNeg (mL (((5 : Int32) * v5) + 0).toNatClampNeg)) (((5 : Int32) * v4) + 1).toNatClampNeg ((upd mL (((5 : Int32) * v4) + 0).toNatClampNeg (mL (((5 : Int32) * v5) + 0).toNatClampNeg)) (((5 : Int32) * v5) + 1).toNatClampNeg)) (((5 : Int32) * v4) + 2).toNatClampNeg ((upd (upd mL (((5 : Int32) * v4) + 0).toNatClampNeg (mL (((5 : Int32) * v5) + 0).toNatClampNeg)) (((5 : Int32) * v4) + 1).toNatClampNeg ((upd mL (((5 : Int32) * v4) + 0).toNatClampNeg (mL (((5 : Int32) * v5) + 0).toNatClampNeg)) (((5 : Int32) * v5) + 1).toNatClampNeg)) (((5 : Int32) * v5) + 2).toNatClampNeg)) (((5 : Int32) * v5) + 3).toNatClampNeg)) (((5 : Int32) * v4) + 4).toNatClampNeg ((upd (upd (upd (upd mL (((5 : Int32) * v4) + 0).toNatClampNeg (mL (((5 : Int32) * v5) + 0).toNatClampNeg)) (((5 : Int32) * v4) + 1).toNatClampNeg ((upd mL (((5 : Int32) * v4) + 0).toNatClampNeg (mL (((5 : Int32) * v5) + 0).toNatClampNeg)) (((5 : Int32) * v5) + 1).toNatClampNeg)) (((5 : Int32) * v4) + 2).toNatClampNeg ((upd (upd mL (((5 : Int32) * v4) + 0).toNatClampNeg (mL (((5 : Int32) * v5) + 0).toNatClampNeg)) (((5 : Int32) * v4) + 1).toNatClampNeg ((upd mL (((5 : Int32) * v4) + 0).toNatClampNeg (mL (((5 : Int32) * v5) + 0).toNatClampNeg)) (((5 : Int32) * v5) + 1).toNatClampNeg)) (((5 : Int32) * v5) + 2).toNatClampNeg)) (((5 : Int32) * v4) + 3).toNatClampNeg ((upd (upd (upd mL (((5 : Int32) * v4) + 0).toNatClampNeg (mL (((5 : Int32) * v5) + 0).toNatClampNeg)) (((5 : Int32) * v4) + 1).toNatClampNeg ((upd mL (((5 : Int32) * v4) + 0).toNatClampNeg (mL (((5 : Int32) * v5) + 0).toNatClampNeg)) (((5 : Int32) * v5) + 1).toNatClampNeg)) (((5 : Int32) * v4) + 2).toNatClampNeg ((upd (upd mL (((5 : Int32) * v4) + 0).toNatClampNeg (mL (((5 : Int32) * v5) + 0).toNatClampNeg)) (((5 : Int32) * v4) + 1).toNatClampNeg ((upd mL (((5 : Int32) * v4) + 0).toNatClampNeg (mL (((5 : Int32) * v5) + 0).toNatClampNeg)) (((5 : Int32) * v5) + 1).toNatClampNeg)) (((5 : Int32) * v5) + 2).toNatClampNeg)) (((5 : Int32) * v5) + 3).toNatClampNeg)) (((5 : Int32) * v5) + 4).toNatClampNeg)) mnL (v4 + 1) (v5 + 1))))))))))) else if 4096 ≤ x2 then gd (inb (((5 : Int32) * v5) + 0) 30) (gd (inb (((5 : Int32) * v4) + 0) 30) (gd (inb (((5 : Int32) * v5) + 1) 30) (gd (inb (((5 : Int32) * v4) + 1) 30) (gd (inb (((5 : Int32) * v5) + 2) 30) (gd (inb (((5 : Int32) * v4) + 2) 30) (gd (inb (((5 : Int32) * v5) + 3) 30) (gd (inb (((5 : Int32) * v4) + 3) 30) (gd (inb (((5 : Int32) * v5) + 4) 30) (gd (inb (((5 : Int32) * v4) + 4) 30) (FX3_forgetLeaves_6 x1 x2 x3 n (upd (upd (upd (upd (upd mL (((5 : Int32) * v4) + 0).toNatClampNeg (mL (((5 : Int32) * v5) + 0).toNatClampNeg)) (((5 : Int32) * v4) + 1).toNatClampNeg ((upd mL (((5 : Int32) * v4) + 0).toNatClampNeg (mL (((5 : Int32) * v5) + 0).toNatClampNeg)) (((5 : Int32) * v5) + 1).toNatClampNeg)) (((5 : Int32) * v4) + 2).toNatClampNeg ((upd (upd mL (((5 : Int32) * v4) + 0).toNatClampNeg (mL (((5 : Int32) * v5) + 0).toNatClampNeg)) (((5 : Int32) * v4) + 1).toNatClampNeg ((upd mL (((5 : Int32) * v4) + 0).toNatClampNeg (mL (((5 : Int32) * v5) + 0).toNatClampNeg)) (((5 : Int32) * v5) + 1).toNatClampNeg)) (((5 : Int32) * v5) + 2).toNatClampNeg)) (((5 : Int32) * v4) + 3).toNatClampNeg ((upd (upd (upd mL (((5 : Int32) * v4) + 0).toNatClampNeg (mL (((5 : Int32) * v5) + 0).toNatClampNeg)) (((5 : Int32) * v4) + 1).toNatClampNeg ((upd mL (((5 : Int32) * v4) + 0).toNatClampNeg (mL (((5 : Int32) * v5) + 0).toNatClampNeg)) (((5 : Int32) * v5) + 1).toNatClampNeg)) (((5 : Int32) * v4) + 2).toNatClampNeg ((upd (upd mL (((5 : Int32) * v4) + 0).toNatClampNeg (mL (((5 : Int32) * v5) + 0).toNatClampNeg)) (((5 : Int32) * v4) + 1).toNatClampNeg ((upd mL (((5 : Int32) * v4) + 0).toNatClampNeg (mL (((5 : Int32) * v5) + 0).toNatClampNeg)) (((5 : Int32) * v5) + 1).toNatClampNeg)) (((5 : Int32) * v5) + 2).toNatClampNeg)) (((5 : Int32) * v5) + 3).toNatClampNeg)) (((5 : Int32) * v4) + 4).toNatClampNeg ((upd (upd (upd (upd mL (((5 : Int32) * v4) + 0).toNatClampNeg (mL (((5 : Int32) * v5) + 0).toNatClampNeg)) (((5 : Int32) * v4) + 1).toNatClampNeg ((upd mL (((5 : Int32) * v4) + 0).toNatClampNeg (mL (((5 : Int32) * v5) + 0).toNatClampNeg)) (((5 : Int32) * v5) + 1).toNatClampNeg)) (((5 : Int32) * v4) + 2).toNatClampNeg ((upd (upd mL (((5 : Int32) * v4) + 0).toNatClampNeg (mL (((5 : Int32) * v5) + 0).toNatClampNeg)) (((5 : Int32) * v4) + 1).toNatClampNeg ((upd mL (((5 : Int32) * v4) + 0).toNatClampNeg (mL (((5 : Int32) * v5) + 0).toNatClampNeg)) (((5 : Int32) * v5) + 1).toNatClampNeg)) (((5 : Int32) * v5) + 2).toNatClampNeg)) (((5 : Int32) * v4) + 3).toNatClampNeg ((upd (upd (upd mL (((5 : Int32) * v4) + 0).toNatClampNeg (mL (((5 : Int32) * v5) + 0).toNatClampNeg)) (((5 : Int32) * v4) + 1).toNatClampNeg ((upd mL (((5 : Int32) * v4) + 0).toNatClampNeg (mL (((5 : Int32) * v5) + 0).toNatClampNeg)) (((5 : Int32) * v5) + 1).toNatClampNeg)) (((5 : Int32) * v4) + 2).toNatClampNeg ((upd (upd mL (((5 : Int32) * v4) + 0).toNatClampNeg (mL (((5 : Int32) * v5) + 0).toNatClampNeg)) (((5 : Int32) * v4) + 1).toNatClampNeg ((upd mL (((5 : Int32) * v4) + 0).toNatClampNeg (mL (((5 : Int32) * v5) + 0).toNatClampNeg)) (((5 : Int32) * v5) + 1).toNatClampNeg)) (((5 : Int32) * v5) + 2).toNatClampNeg)) (((5 : Int32) * v5) + 3).toNatClampNeg)) (((5 : Int32) * v5) + 4).toNatClampNeg)) mnL (v4 + 1) (v5 + 1))))))))))) else gd (inb (((5 : Int32) * v5) + 1) 30) (gd (inb (((5 : Int32) * v5) + 2) 30) (if (x2 >>> (((4 : Int32) * (mL (((5 : Int32) * v5) + 1).toNatClampNeg)) &&& 31)) = (mL (((5 : Int32) * v5) + 2).toNatClampNeg) then FX3_forgetLeaves_6 x1 x2 x3 n mL mnL v4 (v5 + 1) else gd (inb (((5 : Int32) * v5) + 0) 30) (gd (inb (((5 : Int32) * v4) + 0) 30) (gd (inb (((5 : Int32) * v5) + 1) 30) (gd (inb (((5 : Int32) * v4) + 1) 30) (gd (inb (((5 : Int32) * v5) + 2) 30) (gd (inb (((5 : Int32) * v4) + 2) 30) (gd (inb (((5 : Int32) * v5) + 3) 30) (gd (inb (((5 : Int32) * v4) + 3) 30) (gd (inb (((5 : Int32) * v5) + 4) 30) (gd (inb (((5 : Int32) * v4) + 4) 30) (FX3_forgetLeaves_6 x1 x2 x3 n (upd (upd (upd (upd (upd mL (((5 : Int32) * v4) + 0).toNatClampNeg (mL (((5 : Int32) * v5) + 0).toNatClampNeg)) (((5 : Int32) * v4) + 1).toNatClampNeg ((upd mL (((5 : Int32) * v4) + 0).toNatClampNeg (mL (((5 : Int32) * v5) + 0).toNatClampNeg)) (((5 : Int32) * v5) + 1).toNatClampNeg)) (((5 : Int32) * v4) + 2).toNatClampNeg ((upd (upd mL (((5 : Int32) * v4) + 0).toNatClampNeg (mL (((5 : Int32) * v5) + 0).toNatClampNeg)) (((5 : Int32) * v4) + 1).toNatClampNeg ((upd mL (((5 : Int32) * v4) + 0).toNatClampNeg (mL (((5 : Int32) * v5) + 0).toNatClampNeg)) (((5 : Int32) * v5) + 1).toNatClampNeg)) (((5 : Int32) * v5) + 2).toNatClampNeg)) (((5 : Int32) * v4) + 3).toNatClampNeg ((upd (upd (upd mL (((5 : Int32) * v4) + 0).toNatClampNeg (mL (((5 : Int32) * v5) + 0).toNatClampNeg)) (((5 : Int32) * v4) + 1).toNatClampNeg ((upd mL (((5 : Int32) * v4) + 0).toNatClampNeg (mL (((5 : Int32) * v5) + 0).toNatClampNeg)) (((5 : Int32) * v5) + 1).toNatClampNeg)) (((5 : Int32) * v4) + 2).toNatClampNeg ((upd (upd mL (((5 : Int32) * v4) + 0).toNatClampNeg (mL (((5 : Int32) * v5) + 0).toNatClampNeg)) (((5 : Int32) * v4) + 1).toNatClampNeg ((upd mL (((5 : Int32) * v4) + 0).toNatClampNeg (mL (((5 : Int32) * v5) + 0).toNatClampNeg)) (((5 : Int32) * v5) + 1).toNatClampNeg)) (((5 : Int32) * v5) + 2).toNatClampNeg)) (((5 : Int32) * v5) + 3).toNatClampNeg)) (((5 : Int32) * v4) + 4).toNatClampNeg ((upd (upd (upd (upd mL (((5 : Int32) * v4) + 0).toNatClampNeg (mL (((5 : Int32) * v5) + 0).toNatClampNeg)) (((5 : Int32) * v4) + 1).toNatClampNeg ((upd mL (((5 : Int32) * v4) + 0).toNatClampNeg (mL (((5 : Int32) * v5) + 0).toNatClampNeg)) (((5 : Int32) * v5) + 1).toNatClampNeg)) (((5 : Int32) * v4) + 2).toNatClampNeg ((upd (upd mL (((5 : Int32) * v4) + 0).toNatClampNeg (mL (((5 : Int32) * v5) + 0).toNatClampNeg)) (((5 : Int32) * v4) + 1).toNatClampNeg ((upd mL (((5 : Int32) * v4) + 0).toNatClampNeg (mL (((5 : Int32) * v5) + 0).toNatClampNeg)) (((5 : Int32) * v5) + 1).toNatClampNeg)) (((5 : Int32) * v5) + 2).toNatClampNeg)) (((5 : Int32) * v4) + 3).toNatClampNeg ((upd (upd (upd mL (((5 : Int32) * v4) + 0).toNatClampNeg (mL (((5 : Int32) * v5) + 0).toNatClampNeg)) (((5 : Int32) * v4) + 1).toNatClampNeg ((upd mL (((5 : Int32) * v4) + 0).toNatClampNeg (mL (((5 : Int32) * v5) + 0).toNatClampNeg)) (((5 : Int32) * v5) + 1).toNatClampNeg)) (((5 : Int32) * v4) + 2).toNatClampNeg ((upd (upd mL (((5 : Int32) * v4) + 0).toNatClampNeg (mL (((5 : Int32) * v5) + 0).toNatClampNeg)) (((5 : Int32) * v4) + 1).toNatClampNeg ((upd mL (((5 : Int32) * v4) + 0).toNatClampNeg (mL (((5 : Int32) * v5) + 0).toNatClampNeg)) (((5 : Int32) * v5) + 1).toNatClampNeg)) (((5 : Int32) * v5) + 2).toNatClampNeg)) (((5 : Int32) * v5) + 3).toNatClampNeg)) (((5 : Int32) * v5) + 4).toNatClampNeg)) mnL (v4 + 1) (v5 + 1))))))))))))) else gd (inb (((5 : Int32) * v5) + 0) 30) (gd (inb (((5 : Int32) * v4) + 0) 30) (gd (inb (((5 : Int32) * v5) + 1) 30) (gd (inb (((5 : Int32) * v4) + 1) 30) (gd (inb (((5 : Int32) * v5) + 2) 30) (gd (inb (((5 : Int32) * v4) + 2) 30) (gd (inb (((5 : Int32) * v5) + 3) 30) (gd (inb (((5 : Int32) * v4) + 3) 30) (gd (inb (((5 : Int32) * v5) + 4) 30) (gd (inb (((5 : Int32) * v4) + 4) 30) (FX3_forgetLeaves_6 x1 x2 x3 n (upd (upd (upd (upd (upd mL (((5 : Int32) * v4) + 0).toNatClampNeg (mL (((5 : Int32) * v5) + 0).toNatClampNeg)) (((5 : Int32) * v4) + 1).toNatClampNeg ((upd mL (((5 : Int32) * v4) + 0).toNatClampNeg (mL (((5 : Int32) * v5) + 0).toNatClampNeg)) (((5 : Int32) * v5) + 1).toNatClampNeg)) (((5 : Int32) * v4) + 2).toNatClampNeg ((upd (upd mL (((5 : Int32) * v4) + 0).toNatClampNeg (mL (((5 : Int32) * v5) + 0).toNatClampNeg)) (((5 : Int32) * v4) + 1).toNatClampNeg ((upd mL (((5 : Int32) * v4) + 0).toNatClampNeg (mL (((5 : Int32) * v5) + 0).toNatClampNeg)) (((5 : Int32) * v5) + 1).toNatClampNeg)) (((5 : Int32) * v5) + 2).toNatClampNeg)) (((5 : Int32) * v4) + 3).toNatClampNeg ((upd (upd (upd mL (((5 : Int32) * v4) + 0).toNatClampNeg (mL (((5 : Int32) * v5) + 0).toNatClampNeg)) (((5 : Int32) * v4) + 1).toNatClampNeg ((upd mL (((5 : Int32) * v4) + 0).toNatClampNeg (mL (((5 : Int32) * v5) + 0).toNatClampNeg)) (((5 : Int32) * v5) + 1).toNatClampNeg)) (((5 : Int32) * v4) + 2).toNatClampNeg ((upd (upd mL (((5 : Int32) * v4) + 0).toNatClampNeg (mL (((5 : Int32) * v5) + 0).toNatClampNeg)) (((5 : Int32) * v4) + 1).toNatClampNeg ((upd mL (((5 : Int32) * v4) + 0).toNatClampNeg (mL (((5 : Int32) * v5) + 0).toNatClampNeg)) (((5 : Int32) * v5) + 1).toNatClampNeg)) (((5 : Int32) * v5) + 2).toNatClampNeg)) (((5 : Int32) * v5) + 3).toNatClampNeg)) (((5 : Int32) * v4) + 4).toNatClampNeg ((upd (upd (upd (upd mL (((5 : Int32) * v4) + 0).toNatClampNeg (mL (((5 : Int32) * v5) + 0).toNatClampNeg)) (((5 : Int32) * v4) + 1).toNatClampNeg ((upd mL (((5 : Int32) * v4) + 0).toNatClampNeg (mL (((5 : Int32) * v5) + 0).toNatClampNeg)) (((5 : Int32) * v5) + 1).toNatClampNeg)) (((5 : Int32) * v4) + 2).toNatClampNeg ((upd (upd mL (((5 : Int32) * v4) + 0).toNatClampNeg (mL (((5 : Int32) * v5) + 0).toNatClampNeg)) (((5 : Int32) * v4) + 1).toNatClampNeg ((upd mL (((5 : Int32) * v4) + 0).toNatClampNeg (mL (((5 : Int32) * v5) + 0).toNatClampNeg)) (((5 : Int32) * v5) + 1).toNatClampNeg)) (((5 : Int32) * v5) + 2).toNatClampNeg)) (((5 : Int32) * v4) + 3).toNatClampNeg ((upd (upd (upd mL (((5 : Int32) * v4) + 0).toNatClampNeg (mL (((5 : Int32) * v5) + 0).toNatClampNeg)) (((5 : Int32) * v4) + 1).toNatClampNeg ((upd mL (((5 : Int32) * v4) + 0).toNatClampNeg (mL (((5 : Int32) * v5) + 0).toNatClampNeg)) (((5 : Int32) * v5) + 1).toNatClampNeg)) (((5 : Int32) * v4) + 2).toNatClampNeg ((upd (upd mL (((5 : Int32) * v4) + 0).toNatClampNeg (mL (((5 : Int32) * v5) + 0).toNatClampNeg)) (((5 : Int32) * v4) + 1).toNatClampNeg ((upd mL (((5 : Int32) * v4) + 0).toNatClampNeg (mL (((5 : Int32) * v5) + 0).toNatClampNeg)) (((5 : Int32) * v5) + 1).toNatClampNeg)) (((5 : Int32) * v5) + 2).toNatClampNeg)) (((5 : Int32) * v5) + 3).toNatClampNeg)) (((5 : Int32) * v5) + 4).toNatClampNeg)) mnL (v4 + 1) (v5 + 1))))))))))))
def FX3_forgetLeaves (x1 x2 x3 : Int32) (mL : Nat → Int32) (mnL : Int32) : Option ((Nat → Int32) × Int32) := FX3_forgetLeaves_6 x1 x2 x3 fuel mL mnL 0 0
def FX3_forgetContexts_5 (x1 x2 : Int32) : Nat → (Nat → Int32) → Int32 → Int32 → Int32 → Option ((Nat → Int32) × Int32)
  | 0, _, _, _, _ => none
  | n + 1, mC, mnC, v3, v4 => if mnC ≤ v4 then some (mC, v3) else if x2 = 0 then gd (inb ((4 : Int32) * v4) 12) (if (mC ((4 : Int32) * v4).toNatClampNeg) = x1 then FX3_forgetContexts_5 x1 x2 n mC mnC v3 (v4 + 1) else gd (inb (((4 : Int32) * v4) + 0) 12) (gd (inb (((4 : Int32) * v3) + 0) 12) (gd (inb (((4 : Int32) * v4) + 1) 12) (gd (inb (((4 : Int32) * v3) + 1) 12) (gd (inb (((4 : Int32) * v4) + 2) 12) (gd (inb (((4 : Int32) * v3) + 2) 12) (gd (inb (((4 : Int32) * v4) + 3) 12) (gd (inb (((4 : Int32) * v3) + 3) 12) (FX3_forgetContexts_5 x1 x2 n (upd (upd (upd (upd mC (((4 : Int32) * v3) + 0).toNatClampNeg (mC (((4 : Int32) * v4) + 0).toNatClampNeg)) (((4 : Int32) * v3) + 1).toNatClampNeg ((upd mC (((4 : Int32) * v3) + 0).toNatClampNeg (mC (((4 : Int32) * v4) + 0).toNatClampNeg)) (((4 : Int32) * v4) + 1).toNatClampNeg)) (((4 : Int32) * v3) + 2).toNatClampNeg ((upd (upd mC (((4 : Int32) * v3) + 0).toNatClampNeg (mC (((4 : Int32) * v4) + 0).toNatClampNeg)) (((4 : Int32) * v3) + 1).toNatClampNeg ((upd mC (((4 : Int32) * v3) + 0).toNatClampNeg (mC (((4 : Int32) * v4) + 0).toNatClampNeg)) (((4 : Int32) * v4) + 1).toNatClampNeg)) (((4 : Int32) * v4) + 2).toNatClampNeg)) (((4 : Int32) * v3) + 3).toNatClampNeg ((upd (upd (upd mC (((4 : Int32) * v3) + 0).toNatClampNeg (mC (((4 : Int32) * v4) + 0).toNatClampNeg)) (((4 : Int32) * v3) + 1).toNatClampNeg ((upd mC (((4 : Int32) * v3) + 0).toNatClampNeg (mC (((4 : Int32) * v4) + 0).toNatClampNeg)) (((4 : Int32) * v4) + 1).toNatClampNeg)) (((4 : Int32) * v3) + 2).toNatClampNeg ((upd (upd mC (((4 : Int32) * v3) + 0).toNatClampNeg (mC (((4 : Int32) * v4) + 0).toNatClampNeg)) (((4 : Int32) * v3) + 1).toNatClampNeg ((upd mC (((4 : Int32) * v3) + 0).toNatClampNeg (mC (((4 : Int32) * v4) + 0).toNatClampNeg)) (((4 : Int32) * v4) + 1).toNatClampNeg)) (((4 : Int32) * v4) + 2).toNatClampNeg)) (((4 : Int32) * v4) + 3).toNatClampNeg)) mnC (v3 + 1) (v4 + 1)))))))))) else FX3_forgetContexts_5 x1 x2 n mC mnC v3 (v4 + 1)
def FX3_forgetContexts (x1 x2 : Int32) (mC : Nat → Int32) (mnC : Int32) : Option ((Nat → Int32) × Int32) := FX3_forgetContexts_5 x1 x2 fuel mC mnC 0 0
def FX3_does (x1 x2 x3 : Int32) (mW : Nat → Int32) (mC : Nat → Int32) (mL : Nat → Int32) (mnC : Int32) (mnL : Int32) : Option ((Nat → Int32) × (Nat → Int32) × (Nat → Int32) × Int32 × Int32) := if x1 = 0 then bd2 (FX3_forgetLeaves (-1) 0 0 mL mnL) (fun q2mL q2mnL => some (mW, mC, q2mL, mnC, q2mnL)) else if x1 = 1 then if x2 < 0 then some (mW, mC, mL, mnC, mnL) else bd2 (FX3_forgetLeaves x2 0 0 mL mnL) (fun q5mL q5mnL => some (mW, mC, q5mL, mnC, q5mnL)) else if x1 = 2 then if x2 < 0 then some (mW, mC, mL, mnC, mnL) else bd2 (FX3_forgetLeaves x2 x3 1 mL mnL) (fun q8mL q8mnL => some (mW, mC, q8mL, mnC, q8mnL)) else if x1 = 3 then bd2 (FX3_forgetContexts x2 0 mC mnC) (fun q10mC q10mnC => some (mW, q10mC, mL, q10mnC, mnL)) else if x1 = 4 then bd2 (FX3_forgetContexts 0 1 mC mnC) (fun q12mC q12mnC => some (mW, q12mC, mL, q12mnC, mnL)) else bd1 (FX3_isPlace x2) (fun rq13 => if rq13 = 0 then some (mW, mC, mL, mnC, mnL) else gd (inb x2 16384) (some ((upd mW x2.toNatClampNeg x3), mC, mL, mnC, mnL)))
def FX3_obey_13 (x1 : Int32) : Nat → (Nat → Int32) → (Nat → Int32) → (Nat → Int32) → (Nat → Int32) → Int32 → Int32 → Int32 → Int32 → Int32 → Option (Int32 × (Nat → Int32) × (Nat → Int32) × (Nat → Int32) × (Nat → Int32) × Int32 × Int32 × Int32 × Int32)
  | 0, _, _, _, _, _, _, _, _, _ => none
  | n + 1, mW, mC, mL, mQ, mnC, mnL, mnQ, mth, v2 => if x1 ≤ v2 then some (v2, mW, mC, mL, mQ, mnC, mnL, mnQ, mth) else if mnQ ≤ 0 then some (v2, mW, mC, mL, mQ, mnC, mnL, mnQ, mth) else gd (inb 0 36) (gd (inb 1 36) (gd (inb 2 36) (bd1 (FX3_shift 36 3 mnQ mQ) (fun q7sB => bd5 (FX3_does (mQ (0 : Int32).toNatClampNeg) (mQ (1 : Int32).toNatClampNeg) (mQ (2 : Int32).toNatClampNeg) mW mC mL mnC mnL) (fun q8mW q8mC q8mL q8mnC q8mnL => FX3_obey_13 x1 n q8mW q8mC q8mL q7sB q8mnC q8mnL (mnQ - 1) mth (v2 + 1))))))
def FX3_obey (x1 : Int32) (mW : Nat → Int32) (mC : Nat → Int32) (mL : Nat → Int32) (mQ : Nat → Int32) (mnC : Int32) (mnL : Int32) (mnQ : Int32) (mth : Int32) : Option (Int32 × (Nat → Int32) × (Nat → Int32) × (Nat → Int32) × (Nat → Int32) × Int32 × Int32 × Int32 × Int32) := if 0 ≤ x1 then FX3_obey_13 x1 fuel mW mC mL mQ mnC mnL mnQ 0 0 else some ((-1), mW, mC, mL, mQ, mnC, mnL, mnQ, 0)
def FX3_count (x1 : Int32) (mtb : Int32) (mnC : Int32) (mnL : Int32) (mnR : Int32) (mov : Int32) (mnQ : Int32) (mwr : Int32) (mwl : Int32) (mth : Int32) : Option (Int32 × Int32) := if x1 = 0 then some (mnQ, 0) else if x1 = 1 then some (mnR, 0) else if x1 = 2 then if mov = 0 then some (0, 0) else some (1, 0) else if x1 = 3 then some (mnC, 0) else if x1 = 4 then some (mnL, 0) else if x1 = 5 then some (mwr, 0) else if x1 = 6 then some (mwl, 0) else if x1 = 7 then some (mtb, 0) else some ((-1), 0)
def FX3_record (x1 x2 : Int32) (mR : Nat → Int32) (mnR : Int32) (mth : Int32) : Option (Int32 × Int32) := if x1 < 0 then some ((-1), 0) else if mnR ≤ x1 then some ((-1), 0) else if x2 < 0 then some ((-1), 0) else if 4 ≤ x2 then some ((-1), 0) else gd (inb (((4 : Int32) * x1) + x2) 24) (some ((mR (((4 : Int32) * x1) + x2).toNatClampNeg), 0))
def FX3_drop (mR : Nat → Int32) (mnR : Int32) (mth : Int32) : Option (Int32 × (Nat → Int32) × Int32 × Int32) := if mnR = 0 then some ((-1), mR, mnR, 0) else bd1 (FX3_shift 24 4 mnR mR) (fun q2sB => some ((mnR - 1), q2sB, (mnR - 1), 0))
def FX3_clear (mnR : Int32) (mov : Int32) (mth : Int32) : Option (Int32 × Int32 × Int32 × Int32) := some (mnR, 0, 0, 0)
def FX3_leaf (x1 x2 : Int32) (mL : Nat → Int32) (mnL : Int32) (mth : Int32) : Option (Int32 × Int32) := if x1 < 0 then some ((-1), 0) else if mnL ≤ x1 then some ((-1), 0) else if x2 < 0 then some ((-1), 0) else if 5 ≤ x2 then some ((-1), 0) else gd (inb (((5 : Int32) * x1) + x2) 30) (some ((mL (((5 : Int32) * x1) + x2).toNatClampNeg), 0))
theorem lkX3_forgetLeaves_49 : Cond.fieldLink RX3 49 (TX3 5).1 (TX3 5).2.1 (TX3 5).2.2.1 ∈ wsX3_forgetLeaves := by decide +kernel
theorem lkX3_forgetLeaves_16 : Cond.fieldLink RX3 16 (TX3 4).1 (TX3 4).2.1 (TX3 4).2.2.1 ∈ wsX3_forgetLeaves := by decide +kernel
theorem inX3_forgetLeaves_X3 : ∀ w ∈ u_ws RX3 TX3 17, w ∈ wsX3_forgetLeaves := by decide +kernel
theorem hdyX3_forgetLeaves : yX3_forgetLeaves.cls = RX3 ∧ yX3_forgetLeaves.cls ≠ "java/lang/invoke/MethodHandle" ∧ yX3_forgetLeaves.cls ≠ "java/lang/invoke/VarHandle" ∧ (parseMethodDescriptor yX3_forgetLeaves.desc).map (fun d => d.parameters.length) = some 3 := by decide +kernel
set_option maxHeartbeats 4000000 in
set_option maxRecDepth 100000 in
theorem ctX3_forgetLeaves (l : Launch) (D : va_G) (a : Nat → Nat) (k : Nat → ClassId) (mW : Nat → Int32) (mC : Nat → Int32) (mL : Nat → Int32) (mR : Nat → Int32) (mQ : Nat → Int32) (mE : Nat → Int32) (mtb : Int32) (mnC : Int32) (mnL : Int32) (mnR : Int32) (mov : Int32) (mnQ : Int32) (mwr : Int32) (mwl : Int32) (mft : Int32) (mth : Int32) (mpl : Int32) (x1 x2 x3 : Int32) (omL : Nat → Int32) (omnL : Int32) (hF : FX3_forgetLeaves x1 x2 x3 mL mnL = some (omL, omnL)) : jv l yX3_forgetLeaves wsX3_forgetLeaves { frames := 0, cells := 0, slots := 0, locals := 0 } D (mt k) [.ref (a 0), .int x1, .int x2, .int x3] (mw a k mW mC mL mR mQ mE mtb mnC mnL mnR mov mnQ mwr mwl mft mth mpl) (mw a k mW mC omL mR mQ mE mtb mnC omnL mnR mov mnQ mwr mwl mft mth mpl) := by
  refine j_mv (cc := cX3_forgetLeaves) (maxL := 9) (own := RX3) (by decide) rfl rfl (Nat.le_of_ble_eq_true rfl) ?_
  intro p e s m args below meth c A C K hr hlk
  have K6 : ∀ (n : Nat) (mL : Nat → Int32) (mnL : Int32) (v4 v5 : Int32), FX3_forgetLeaves_6 x1 x2 x3 n mL mnL v4 v5 = some (omL, omnL) → jw p l e ({ frames := 0, cells := 0, slots := 0, locals := 0 } : Room) s m args below meth c 9 D A 0 0 (jqv below D (mt k) args s A (mw a k mW mC omL mR mQ mE mtb mnC omnL mnR mov mnQ mwr mwl mft mth mpl)) (mw a k mW mC mL mR mQ mE mtb mnC mnL mnR mov mnQ mwr mwl mft mth mpl) [(0, .ref (a 0)), (1, .int x1), (2, .int x2), (3, .int x3), (4, .int v4), (5, .int v5)] 6 [] := by
    intro n
    induction n with
    | zero =>
      intro mL mnL v4 v5 hF
      rw [FX3_forgetLeaves_6] at hF
      cases hF
    | succ n ih =>
      intro mL mnL v4 v5 hF
      rw [FX3_forgetLeaves_6] at hF
      refine j_iload (pc := 6) C 5 dX3_forgetLeaves_6 rfl ?_
      refine j_aload_n (pc := 8) C 0 dX3_forgetLeaves_8 rfl rfl ?_
      refine j_get (pc := 9) (v := .int mnL) C K inX3_forgetLeaves_X3 0 rfl rfl 5 (by decide) lkX3_forgetLeaves_49 rfl dX3_forgetLeaves_9 ?_
      refine j_icmp_ge (pc := 12) (tgt := 138) C dX3_forgetLeaves_12 (by decide) (fun c1 => ?_) (fun c1 => ?_)
      · replace hF := ifp hF c1
        refine j_aload_n (pc := 138) C 0 dX3_forgetLeaves_138 rfl rfl ?_
        refine j_iload (pc := 139) C 4 dX3_forgetLeaves_139 rfl ?_
        refine j_put (pc := 141) (ws' := (mw a k mW mC mL mR mQ mE mtb mnC v4 mnR mov mnQ mwr mwl mft mth mpl)) C K inX3_forgetLeaves_X3 tyX3 tyX3_ok nmX3 0 rfl rfl 5 (by decide) lkX3_forgetLeaves_49 rfl (tyX3_ok 5 (by decide)) rfl rfl (Nat.le_of_ble_eq_true rfl) rfl dX3_forgetLeaves_141 ?_
        cases hF
        exact j_vret (pc := 144) C K hr hlk dX3_forgetLeaves_144
      · replace hF := ifn hF c1
        refine j_iconst (pc := 15) (v := 5) C dX3_forgetLeaves_15 (by decide) ?_
        refine j_iload (pc := 16) C 5 dX3_forgetLeaves_16 rfl ?_
        refine j_imul (pc := 18) C dX3_forgetLeaves_18 ?_
        refine j_istore (pc := 19) (lv' := [(6, .int ((5 : Int32) * v5)), (0, .ref (a 0)), (1, .int x1), (2, .int x2), (3, .int x3), (4, .int v4), (5, .int v5)]) C dX3_forgetLeaves_19 (by decide) rfl ?_
        refine j_iload_n (pc := 21) C 2 dX3_forgetLeaves_21 rfl rfl ?_
        refine j_iconst (pc := 22) (v := (-1)) C dX3_forgetLeaves_22 (by decide) ?_
        refine j_icmp_eq (pc := 23) (tgt := 77) C dX3_forgetLeaves_23 (by decide) (fun c2 => ?_) (fun c2 => ?_)
        · replace hF := ifp hF c2
          refine j_iconst (pc := 77) (v := 1) C dX3_forgetLeaves_77 (by decide) ?_
          refine j_goto (pc := 78) (tgt := 82) C dX3_forgetLeaves_78 (by decide) ?_
          refine j_istore (pc := 82) (lv' := [(7, .int 1), (6, .int ((5 : Int32) * v5)), (0, .ref (a 0)), (1, .int x1), (2, .int x2), (3, .int x3), (4, .int v4), (5, .int v5)]) C dX3_forgetLeaves_82 (by decide) rfl ?_
          refine j_iload (pc := 84) C 0 dX3_forgetLeaves_84 rfl ?_
          refine j_if_eq (pc := 86) (tgt := 92) C dX3_forgetLeaves_86 (by decide) (fun h => absurd h (by decide)) (fun _ => ?_)
          refine j_goto (pc := 89) (tgt := 132) C dX3_forgetLeaves_89 (by decide) ?_
          refine j_iinc (pc := 132) (v := (v5 + 1)) (lv' := [(5, .int (v5 + 1)), (7, .int 1), (6, .int ((5 : Int32) * v5)), (0, .ref (a 0)), (1, .int x1), (2, .int x2), (3, .int x3), (4, .int v4)]) C 7 dX3_forgetLeaves_132 rfl rfl (by decide) rfl ?_
          refine j_goto (pc := 135) (tgt := 6) C dX3_forgetLeaves_135 (by decide) ?_
          exact j_lv [3, 4, 5, 6, 7, 0] rfl (ih _ _ _ _ hF)
        · replace hF := ifn hF c2
          refine j_aload_n (pc := 26) C 1 dX3_forgetLeaves_26 rfl rfl ?_
          refine j_get (pc := 27) (v := .ref (a 3)) C K inX3_forgetLeaves_X3 0 rfl rfl 4 (by decide) lkX3_forgetLeaves_16 rfl dX3_forgetLeaves_27 ?_
          refine j_iload (pc := 30) C 0 dX3_forgetLeaves_30 rfl ?_
          obtain ⟨g3, hF⟩ := gd_some hF
          refine j_iald (pc := 32) C K 3 2 rfl rfl g3 dX3_forgetLeaves_32 ?_
          refine j_iload_n (pc := 33) C 2 dX3_forgetLeaves_33 rfl rfl ?_
          refine j_icmp_ne (pc := 34) (tgt := 81) C dX3_forgetLeaves_34 (by decide) (fun c4 => ?_) (fun c4 => ?_)
          · replace hF := ifn hF c4
            refine j_iconst (pc := 81) (v := 0) C dX3_forgetLeaves_81 (by decide) ?_
            refine j_istore (pc := 82) (lv' := [(7, .int 0), (6, .int ((5 : Int32) * v5)), (0, .ref (a 0)), (1, .int x1), (2, .int x2), (3, .int x3), (4, .int v4), (5, .int v5)]) C dX3_forgetLeaves_82 (by decide) rfl ?_
            refine j_iload (pc := 84) C 0 dX3_forgetLeaves_84 rfl ?_
            refine j_if_eq (pc := 86) (tgt := 92) C dX3_forgetLeaves_86 (by decide) (fun _ => ?_) (fun h => absurd h (by decide))
            refine j_iconst (pc := 92) (v := 0) C dX3_forgetLeaves_92 (by decide) ?_
            refine j_istore (pc := 93) (lv' := [(8, .int 0), (7, .int 0), (6, .int ((5 : Int32) * v5)), (0, .ref (a 0)), (1, .int x1), (2, .int x2), (3, .int x3), (4, .int v4), (5, .int v5)]) C dX3_forgetLeaves_93 (by decide) rfl ?_
            refine j_iload (pc := 95) C 0 dX3_forgetLeaves_95 rfl ?_
            refine j_iconst (pc := 97) (v := 5) C dX3_forgetLeaves_97 (by decide) ?_
            refine j_icmp_ge (pc := 98) (tgt := 129) C dX3_forgetLeaves_98 (by decide) (fun h => absurd h (by decide)) (fun _ => ?_)
            refine j_aload_n (pc := 101) C 3 dX3_forgetLeaves_101 rfl rfl ?_
            refine j_get (pc := 102) (v := .ref (a 3)) C K inX3_forgetLeaves_X3 0 rfl rfl 4 (by decide) lkX3_forgetLeaves_16 rfl dX3_forgetLeaves_102 ?_
            refine j_iconst (pc := 105) (v := 5) C dX3_forgetLeaves_105 (by decide) ?_
            refine j_iload (pc := 106) C 7 dX3_forgetLeaves_106 rfl ?_
            refine j_imul (pc := 108) C dX3_forgetLeaves_108 ?_
            refine j_iload (pc := 109) C 0 dX3_forgetLeaves_109 rfl ?_
            refine j_iadd (pc := 111) C dX3_forgetLeaves_111 ?_
            refine j_aload_n (pc := 112) C 3 dX3_forgetLeaves_112 rfl rfl ?_
            refine j_get (pc := 113) (v := .ref (a 3)) C K inX3_forgetLeaves_X3 0 rfl rfl 4 (by decide) lkX3_forgetLeaves_16 rfl dX3_forgetLeaves_113 ?_
            refine j_iload (pc := 116) C 2 dX3_forgetLeaves_116 rfl ?_
            refine j_iload (pc := 118) C 0 dX3_forgetLeaves_118 rfl ?_
            refine j_iadd (pc := 120) C dX3_forgetLeaves_120 ?_
            obtain ⟨g5, hF⟩ := gd_some hF
            refine j_iald (pc := 121) C K 3 2 rfl rfl g5 dX3_forgetLeaves_121 ?_
            obtain ⟨g6, hF⟩ := gd_some hF
            refine j_iast (pc := 122) (ws' := (mw a k mW mC (upd mL (((5 : Int32) * v4) + 0).toNatClampNeg (mL (((5 : Int32) * v5) + 0).toNatClampNeg)) mR mQ mE mtb mnC mnL mnR mov mnQ mwr mwl mft mth mpl)) C K 3 2 rfl rfl g6 rfl dX3_forgetLeaves_122 ?_
            refine j_iinc (pc := 123) (v := 1) (lv' := [(8, .int 1), (7, .int 0), (6, .int ((5 : Int32) * v5)), (0, .ref (a 0)), (1, .int x1), (2, .int x2), (3, .int x3), (4, .int v4), (5, .int v5)]) C 0 dX3_forgetLeaves_123 rfl (by decide) (by decide) rfl ?_
            refine j_goto (pc := 126) (tgt := 95) C dX3_forgetLeaves_126 (by decide) ?_
            refine j_iload (pc := 95) C 0 dX3_forgetLeaves_95 rfl ?_
            refine j_iconst (pc := 97) (v := 5) C dX3_forgetLeaves_97 (by decide) ?_
            refine j_icmp_ge (pc := 98) (tgt := 129) C dX3_forgetLeaves_98 (by decide) (fun h => absurd h (by decide)) (fun _ => ?_)
            refine j_aload_n (pc := 101) C 3 dX3_forgetLeaves_101 rfl rfl ?_
            refine j_get (pc := 102) (v := .ref (a 3)) C K inX3_forgetLeaves_X3 0 rfl rfl 4 (by decide) lkX3_forgetLeaves_16 rfl dX3_forgetLeaves_102 ?_
            refine j_iconst (pc := 105) (v := 5) C dX3_forgetLeaves_105 (by decide) ?_
            refine j_iload (pc := 106) C 7 dX3_forgetLeaves_106 rfl ?_
            refine j_imul (pc := 108) C dX3_forgetLeaves_108 ?_
            refine j_iload (pc := 109) C 0 dX3_forgetLeaves_109 rfl ?_
            refine j_iadd (pc := 111) C dX3_forgetLeaves_111 ?_
            refine j_aload_n (pc := 112) C 3 dX3_forgetLeaves_112 rfl rfl ?_
            refine j_get (pc := 113) (v := .ref (a 3)) C K inX3_forgetLeaves_X3 0 rfl rfl 4 (by decide) lkX3_forgetLeaves_16 rfl dX3_forgetLeaves_113 ?_
            refine j_iload (pc := 116) C 2 dX3_forgetLeaves_116 rfl ?_
            refine j_iload (pc := 118) C 0 dX3_forgetLeaves_118 rfl ?_
            refine j_iadd (pc := 120) C dX3_forgetLeaves_120 ?_
            obtain ⟨g7, hF⟩ := gd_some hF
            refine j_iald (pc := 121) C K 3 2 rfl rfl g7 dX3_forgetLeaves_121 ?_
            obtain ⟨g8, hF⟩ := gd_some hF
            refine j_iast (pc := 122) (ws' := (mw a k mW mC (upd (upd mL (((5 : Int32) * v4) + 0).toNatClampNeg (mL (((5 : Int32) * v5) + 0).toNatClampNeg)) (((5 : Int32) * v4) + 1).toNatClampNeg ((upd mL (((5 : Int32) * v4) + 0).toNatClampNeg (mL (((5 : Int32) * v5) + 0).toNatClampNeg)) (((5 : Int32) * v5) + 1).toNatClampNeg)) mR mQ mE mtb mnC mnL mnR mov mnQ mwr mwl mft mth mpl)) C K 3 2 rfl rfl g8 rfl dX3_forgetLeaves_122 ?_
            refine j_iinc (pc := 123) (v := 2) (lv' := [(8, .int 2), (7, .int 0), (6, .int ((5 : Int32) * v5)), (0, .ref (a 0)), (1, .int x1), (2, .int x2), (3, .int x3), (4, .int v4), (5, .int v5)]) C 0 dX3_forgetLeaves_123 rfl (by decide) (by decide) rfl ?_
            refine j_goto (pc := 126) (tgt := 95) C dX3_forgetLeaves_126 (by decide) ?_
            refine j_iload (pc := 95) C 0 dX3_forgetLeaves_95 rfl ?_
            refine j_iconst (pc := 97) (v := 5) C dX3_forgetLeaves_97 (by decide) ?_
            refine j_icmp_ge (pc := 98) (tgt := 129) C dX3_forgetLeaves_98 (by decide) (fun h => absurd h (by decide)) (fun _ => ?_)
            refine j_aload_n (pc := 101) C 3 dX3_forgetLeaves_101 rfl rfl ?_
            refine j_get (pc := 102) (v := .ref (a 3)) C K inX3_forgetLeaves_X3 0 rfl rfl 4 (by decide) lkX3_forgetLeaves_16 rfl dX3_forgetLeaves_102 ?_
            refine j_iconst (pc := 105) (v := 5) C dX3_forgetLeaves_105 (by decide) ?_
            refine j_iload (pc := 106) C 7 dX3_forgetLeaves_106 rfl ?_
            refine j_imul (pc := 108) C dX3_forgetLeaves_108 ?_
            refine j_iload (pc := 109) C 0 dX3_forgetLeaves_109 rfl ?_
            refine j_iadd (pc := 111) C dX3_forgetLeaves_111 ?_
            refine j_aload_n (pc := 112) C 3 dX3_forgetLeaves_112 rfl rfl ?_
            refine j_get (pc := 113) (v := .ref (a 3)) C K inX3_forgetLeaves_X3 0 rfl rfl 4 (by decide) lkX3_forgetLeaves_16 rfl dX3_forgetLeaves_113 ?_
            refine j_iload (pc := 116) C 2 dX3_forgetLeaves_116 rfl ?_
            refine j_iload (pc := 118) C 0 dX3_forgetLeaves_118 rfl ?_
            refine j_iadd (pc := 120) C dX3_forgetLeaves_120 ?_
            obtain ⟨g9, hF⟩ := gd_some hF
            refine j_iald (pc := 121) C K 3 2 rfl rfl g9 dX3_forgetLeaves_121 ?_
            obtain ⟨g10, hF⟩ := gd_some hF
            refine j_iast (pc := 122) (ws' := (mw a k mW mC (upd (upd (upd mL (((5 : Int32) * v4) + 0).toNatClampNeg (mL (((5 : Int32) * v5) + 0).toNatClampNeg)) (((5 : Int32) * v4) + 1).toNatClampNeg ((upd mL (((5 : Int32) * v4) + 0).toNatClampNeg (mL (((5 : Int32) * v5) + 0).toNatClampNeg)) (((5 : Int32) * v5) + 1).toNatClampNeg)) (((5 : Int32) * v4) + 2).toNatClampNeg ((upd (upd mL (((5 : Int32) * v4) + 0).toNatClampNeg (mL (((5 : Int32) * v5) + 0).toNatClampNeg)) (((5 : Int32) * v4) + 1).toNatClampNeg ((upd mL (((5 : Int32) * v4) + 0).toNatClampNeg (mL (((5 : Int32) * v5) + 0).toNatClampNeg)) (((5 : Int32) * v5) + 1).toNatClampNeg)) (((5 : Int32) * v5) + 2).toNatClampNeg)) mR mQ mE mtb mnC mnL mnR mov mnQ mwr mwl mft mth mpl)) C K 3 2 rfl rfl g10 rfl dX3_forgetLeaves_122 ?_
            refine j_iinc (pc := 123) (v := 3) (lv' := [(8, .int 3), (7, .int 0), (6, .int ((5 : Int32) * v5)), (0, .ref (a 0)), (1, .int x1), (2, .int x2), (3, .int x3), (4, .int v4), (5, .int v5)]) C 0 dX3_forgetLeaves_123 rfl (by decide) (by decide) rfl ?_
            refine j_goto (pc := 126) (tgt := 95) C dX3_forgetLeaves_126 (by decide) ?_
            refine j_iload (pc := 95) C 0 dX3_forgetLeaves_95 rfl ?_
            refine j_iconst (pc := 97) (v := 5) C dX3_forgetLeaves_97 (by decide) ?_
            refine j_icmp_ge (pc := 98) (tgt := 129) C dX3_forgetLeaves_98 (by decide) (fun h => absurd h (by decide)) (fun _ => ?_)
            refine j_aload_n (pc := 101) C 3 dX3_forgetLeaves_101 rfl rfl ?_
            refine j_get (pc := 102) (v := .ref (a 3)) C K inX3_forgetLeaves_X3 0 rfl rfl 4 (by decide) lkX3_forgetLeaves_16 rfl dX3_forgetLeaves_102 ?_
            refine j_iconst (pc := 105) (v := 5) C dX3_forgetLeaves_105 (by decide) ?_
            refine j_iload (pc := 106) C 7 dX3_forgetLeaves_106 rfl ?_
            refine j_imul (pc := 108) C dX3_forgetLeaves_108 ?_
            refine j_iload (pc := 109) C 0 dX3_forgetLeaves_109 rfl ?_
            refine j_iadd (pc := 111) C dX3_forgetLeaves_111 ?_
            refine j_aload_n (pc := 112) C 3 dX3_forgetLeaves_112 rfl rfl ?_
            refine j_get (pc := 113) (v := .ref (a 3)) C K inX3_forgetLeaves_X3 0 rfl rfl 4 (by decide) lkX3_forgetLeaves_16 rfl dX3_forgetLeaves_113 ?_
            refine j_iload (pc := 116) C 2 dX3_forgetLeaves_116 rfl ?_
            refine j_iload (pc := 118) C 0 dX3_forgetLeaves_118 rfl ?_
            refine j_iadd (pc := 120) C dX3_forgetLeaves_120 ?_
            obtain ⟨g11, hF⟩ := gd_some hF
            refine j_iald (pc := 121) C K 3 2 rfl rfl g11 dX3_forgetLeaves_121 ?_
            obtain ⟨g12, hF⟩ := gd_some hF
            refine j_iast (pc := 122) (ws' := (mw a k mW mC (upd (upd (upd (upd mL (((5 : Int32) * v4) + 0).toNatClampNeg (mL (((5 : Int32) * v5) + 0).toNatClampNeg)) (((5 : Int32) * v4) + 1).toNatClampNeg ((upd mL (((5 : Int32) * v4) + 0).toNatClampNeg (mL (((5 : Int32) * v5) + 0).toNatClampNeg)) (((5 : Int32) * v5) + 1).toNatClampNeg)) (((5 : Int32) * v4) + 2).toNatClampNeg ((upd (upd mL (((5 : Int32) * v4) + 0).toNatClampNeg (mL (((5 : Int32) * v5) + 0).toNatClampNeg)) (((5 : Int32) * v4) + 1).toNatClampNeg ((upd mL (((5 : Int32) * v4) + 0).toNatClampNeg (mL (((5 : Int32) * v5) + 0).toNatClampNeg)) (((5 : Int32) * v5) + 1).toNatClampNeg)) (((5 : Int32) * v5) + 2).toNatClampNeg)) (((5 : Int32) * v4) + 3).toNatClampNeg ((upd (upd (upd mL (((5 : Int32) * v4) + 0).toNatClampNeg (mL (((5 : Int32) * v5) + 0).toNatClampNeg)) (((5 : Int32) * v4) + 1).toNatClampNeg ((upd mL (((5 : Int32) * v4) + 0).toNatClampNeg (mL (((5 : Int32) * v5) + 0).toNatClampNeg)) (((5 : Int32) * v5) + 1).toNatClampNeg)) (((5 : Int32) * v4) + 2).toNatClampNeg ((upd (upd mL (((5 : Int32) * v4) + 0).toNatClampNeg (mL (((5 : Int32) * v5) + 0).toNatClampNeg)) (((5 : Int32) * v4) + 1).toNatClampNeg ((upd mL (((5 : Int32) * v4) + 0).toNatClampNeg (mL (((5 : Int32) * v5) + 0).toNatClampNeg)) (((5 : Int32) * v5) + 1).toNatClampNeg)) (((5 : Int32) * v5) + 2).toNatClampNeg)) (((5 : Int32) * v5) + 3).toNatClampNeg)) mR mQ mE mtb mnC mnL mnR mov mnQ mwr mwl mft mth mpl)) C K 3 2 rfl rfl g12 rfl dX3_forgetLeaves_122 ?_
            refine j_iinc (pc := 123) (v := 4) (lv' := [(8, .int 4), (7, .int 0), (6, .int ((5 : Int32) * v5)), (0, .ref (a 0)), (1, .int x1), (2, .int x2), (3, .int x3), (4, .int v4), (5, .int v5)]) C 0 dX3_forgetLeaves_123 rfl (by decide) (by decide) rfl ?_
            refine j_goto (pc := 126) (tgt := 95) C dX3_forgetLeaves_126 (by decide) ?_
            refine j_iload (pc := 95) C 0 dX3_forgetLeaves_95 rfl ?_
            refine j_iconst (pc := 97) (v := 5) C dX3_forgetLeaves_97 (by decide) ?_
            refine j_icmp_ge (pc := 98) (tgt := 129) C dX3_forgetLeaves_98 (by decide) (fun h => absurd h (by decide)) (fun _ => ?_)
            refine j_aload_n (pc := 101) C 3 dX3_forgetLeaves_101 rfl rfl ?_
            refine j_get (pc := 102) (v := .ref (a 3)) C K inX3_forgetLeaves_X3 0 rfl rfl 4 (by decide) lkX3_forgetLeaves_16 rfl dX3_forgetLeaves_102 ?_
            refine j_iconst (pc := 105) (v := 5) C dX3_forgetLeaves_105 (by decide) ?_
            refine j_iload (pc := 106) C 7 dX3_forgetLeaves_106 rfl ?_
            refine j_imul (pc := 108) C dX3_forgetLeaves_108 ?_
            refine j_iload (pc := 109) C 0 dX3_forgetLeaves_109 rfl ?_
            refine j_iadd (pc := 111) C dX3_forgetLeaves_111 ?_
            refine j_aload_n (pc := 112) C 3 dX3_forgetLeaves_112 rfl rfl ?_
            refine j_get (pc := 113) (v := .ref (a 3)) C K inX3_forgetLeaves_X3 0 rfl rfl 4 (by decide) lkX3_forgetLeaves_16 rfl dX3_forgetLeaves_113 ?_
            refine j_iload (pc := 116) C 2 dX3_forgetLeaves_116 rfl ?_
            refine j_iload (pc := 118) C 0 dX3_forgetLeaves_118 rfl ?_
            refine j_iadd (pc := 120) C dX3_forgetLeaves_120 ?_
            obtain ⟨g13, hF⟩ := gd_some hF
            refine j_iald (pc := 121) C K 3 2 rfl rfl g13 dX3_forgetLeaves_121 ?_
            obtain ⟨g14, hF⟩ := gd_some hF
            refine j_iast (pc := 122) (ws' := (mw a k mW mC (upd (upd (upd (upd (upd mL (((5 : Int32) * v4) + 0).toNatClampNeg (mL (((5 : Int32) * v5) + 0).toNatClampNeg)) (((5 : Int32) * v4) + 1).toNatClampNeg ((upd mL (((5 : Int32) * v4) + 0).toNatClampNeg (mL (((5 : Int32) * v5) + 0).toNatClampNeg)) (((5 : Int32) * v5) + 1).toNatClampNeg)) (((5 : Int32) * v4) + 2).toNatClampNeg ((upd (upd mL (((5 : Int32) * v4) + 0).toNatClampNeg (mL (((5 : Int32) * v5) + 0).toNatClampNeg)) (((5 : Int32) * v4) + 1).toNatClampNeg ((upd mL (((5 : Int32) * v4) + 0).toNatClampNeg (mL (((5 : Int32) * v5) + 0).toNatClampNeg)) (((5 : Int32) * v5) + 1).toNatClampNeg)) (((5 : Int32) * v5) + 2).toNatClampNeg)) (((5 : Int32) * v4) + 3).toNatClampNeg ((upd (upd (upd mL (((5 : Int32) * v4) + 0).toNatClampNeg (mL (((5 : Int32) * v5) + 0).toNatClampNeg)) (((5 : Int32) * v4) + 1).toNatClampNeg ((upd mL (((5 : Int32) * v4) + 0).toNatClampNeg (mL (((5 : Int32) * v5) + 0).toNatClampNeg)) (((5 : Int32) * v5) + 1).toNatClampNeg)) (((5 : Int32) * v4) + 2).toNatClampNeg ((upd (upd mL (((5 : Int32) * v4) + 0).toNatClampNeg (mL (((5 : Int32) * v5) + 0).toNatClampNeg)) (((5 : Int32) * v4) + 1).toNatClampNeg ((upd mL (((5 : Int32) * v4) + 0).toNatClampNeg (mL (((5 : Int32) * v5) + 0).toNatClampNeg)) (((5 : Int32) * v5) + 1).toNatClampNeg)) (((5 : Int32) * v5) + 2).toNatClampNeg)) (((5 : Int32) * v5) + 3).toNatClampNeg)) (((5 : Int32) * v4) + 4).toNatClampNeg ((upd (upd (upd (upd mL (((5 : Int32) * v4) + 0).toNatClampNeg (mL (((5 : Int32) * v5) + 0).toNatClampNeg)) (((5 : Int32) * v4) + 1).toNatClampNeg ((upd mL (((5 : Int32) * v4) + 0).toNatClampNeg (mL (((5 : Int32) * v5) + 0).toNatClampNeg)) (((5 : Int32) * v5) + 1).toNatClampNeg)) (((5 : Int32) * v4) + 2).toNatClampNeg ((upd (upd mL (((5 : Int32) * v4) + 0).toNatClampNeg (mL (((5 : Int32) * v5) + 0).toNatClampNeg)) (((5 : Int32) * v4) + 1).toNatClampNeg ((upd mL (((5 : Int32) * v4) + 0).toNatClampNeg (mL (((5 : Int32) * v5) + 0).toNatClampNeg)) (((5 : Int32) * v5) + 1).toNatClampNeg)) (((5 : Int32) * v5) + 2).toNatClampNeg)) (((5 : Int32) * v4) + 3).toNatClampNeg ((upd (upd (upd mL (((5 : Int32) * v4) + 0).toNatClampNeg (mL (((5 : Int32) * v5) + 0).toNatClampNeg)) (((5 : Int32) * v4) + 1).toNatClampNeg ((upd mL (((5 : Int32) * v4) + 0).toNatClampNeg (mL (((5 : Int32) * v5) + 0).toNatClampNeg)) (((5 : Int32) * v5) + 1).toNatClampNeg)) (((5 : Int32) * v4) + 2).toNatClampNeg ((upd (upd mL (((5 : Int32) * v4) + 0).toNatClampNeg (mL (((5 : Int32) * v5) + 0).toNatClampNeg)) (((5 : Int32) * v4) + 1).toNatClampNeg ((upd mL (((5 : Int32) * v4) + 0).toNatClampNeg (mL (((5 : Int32) * v5) + 0).toNatClampNeg)) (((5 : Int32) * v5) + 1).toNatClampNeg)) (((5 : Int32) * v5) + 2).toNatClampNeg)) (((5 : Int32) * v5) + 3).toNatClampNeg)) (((5 : Int32) * v5) + 4).toNatClampNeg)) mR mQ mE mtb mnC mnL mnR mov mnQ mwr mwl mft mth mpl)) C K 3 2 rfl rfl g14 rfl dX3_forgetLeaves_122 ?_
            refine j_iinc (pc := 123) (v := 5) (lv' := [(8, .int 5), (7, .int 0), (6, .int ((5 : Int32) * v5)), (0, .ref (a 0)), (1, .int x1), (2, .int x2), (3, .int x3), (4, .int v4), (5, .int v5)]) C 0 dX3_forgetLeaves_123 rfl (by decide) (by decide) rfl ?_
            refine j_goto (pc := 126) (tgt := 95) C dX3_forgetLeaves_126 (by decide) ?_
            refine j_iload (pc := 95) C 0 dX3_forgetLeaves_95 rfl ?_
            refine j_iconst (pc := 97) (v := 5) C dX3_forgetLeaves_97 (by decide) ?_
            refine j_icmp_ge (pc := 98) (tgt := 129) C dX3_forgetLeaves_98 (by decide) (fun _ => ?_) (fun h => absurd h (by decide))
            refine j_iinc (pc := 129) (v := (v4 + 1)) (lv' := [(4, .int (v4 + 1)), (8, .int 5), (7, .int 0), (6, .int ((5 : Int32) * v5)), (0, .ref (a 0)), (1, .int x1), (2, .int x2), (3, .int x3), (5, .int v5)]) C 7 dX3_forgetLeaves_129 rfl rfl (by decide) rfl ?_
            refine j_iinc (pc := 132) (v := (v5 + 1)) (lv' := [(5, .int (v5 + 1)), (4, .int (v4 + 1)), (8, .int 5), (7, .int 0), (6, .int ((5 : Int32) * v5)), (0, .ref (a 0)), (1, .int x1), (2, .int x2), (3, .int x3)]) C 8 dX3_forgetLeaves_132 rfl rfl (by decide) rfl ?_
            refine j_goto (pc := 135) (tgt := 6) C dX3_forgetLeaves_135 (by decide) ?_
            exact j_lv [5, 6, 7, 8, 1, 0] rfl (ih _ _ _ _ hF)
          · replace hF := ifp hF c4
            refine j_iload_n (pc := 37) C 4 dX3_forgetLeaves_37 rfl rfl ?_
            refine j_if_eq (pc := 38) (tgt := 77) C dX3_forgetLeaves_38 (by decide) (fun c15 => ?_) (fun c15 => ?_)
            · replace hF := ifp hF c15
              refine j_iconst (pc := 77) (v := 1) C dX3_forgetLeaves_77 (by decide) ?_
              refine j_goto (pc := 78) (tgt := 82) C dX3_forgetLeaves_78 (by decide) ?_
              refine j_istore (pc := 82) (lv' := [(7, .int 1), (6, .int ((5 : Int32) * v5)), (0, .ref (a 0)), (1, .int x1), (2, .int x2), (3, .int x3), (4, .int v4), (5, .int v5)]) C dX3_forgetLeaves_82 (by decide) rfl ?_
              refine j_iload (pc := 84) C 0 dX3_forgetLeaves_84 rfl ?_
              refine j_if_eq (pc := 86) (tgt := 92) C dX3_forgetLeaves_86 (by decide) (fun h => absurd h (by decide)) (fun _ => ?_)
              refine j_goto (pc := 89) (tgt := 132) C dX3_forgetLeaves_89 (by decide) ?_
              refine j_iinc (pc := 132) (v := (v5 + 1)) (lv' := [(5, .int (v5 + 1)), (7, .int 1), (6, .int ((5 : Int32) * v5)), (0, .ref (a 0)), (1, .int x1), (2, .int x2), (3, .int x3), (4, .int v4)]) C 7 dX3_forgetLeaves_132 rfl rfl (by decide) rfl ?_
              refine j_goto (pc := 135) (tgt := 6) C dX3_forgetLeaves_135 (by decide) ?_
              exact j_lv [3, 4, 5, 6, 7, 0] rfl (ih _ _ _ _ hF)
            · replace hF := ifn hF c15
              refine j_iload_n (pc := 41) C 3 dX3_forgetLeaves_41 rfl rfl ?_
              refine j_if_lt (pc := 42) (tgt := 81) C dX3_forgetLeaves_42 (by decide) (fun c16 => ?_) (fun c16 => ?_)
              · replace hF := ifp hF c16
                refine j_iconst (pc := 81) (v := 0) C dX3_forgetLeaves_81 (by decide) ?_
                refine j_istore (pc := 82) (lv' := [(7, .int 0), (6, .int ((5 : Int32) * v5)), (0, .ref (a 0)), (1, .int x1), (2, .int x2), (3, .int x3), (4, .int v4), (5, .int v5)]) C dX3_forgetLeaves_82 (by decide) rfl ?_
                refine j_iload (pc := 84) C 0 dX3_forgetLeaves_84 rfl ?_
                refine j_if_eq (pc := 86) (tgt := 92) C dX3_forgetLeaves_86 (by decide) (fun _ => ?_) (fun h => absurd h (by decide))
                refine j_iconst (pc := 92) (v := 0) C dX3_forgetLeaves_92 (by decide) ?_
                refine j_istore (pc := 93) (lv' := [(8, .int 0), (7, .int 0), (6, .int ((5 : Int32) * v5)), (0, .ref (a 0)), (1, .int x1), (2, .int x2), (3, .int x3), (4, .int v4), (5, .int v5)]) C dX3_forgetLeaves_93 (by decide) rfl ?_
                refine j_iload (pc := 95) C 0 dX3_forgetLeaves_95 rfl ?_
                refine j_iconst (pc := 97) (v := 5) C dX3_forgetLeaves_97 (by decide) ?_
                refine j_icmp_ge (pc := 98) (tgt := 129) C dX3_forgetLeaves_98 (by decide) (fun h => absurd h (by decide)) (fun _ => ?_)
                refine j_aload_n (pc := 101) C 3 dX3_forgetLeaves_101 rfl rfl ?_
                refine j_get (pc := 102) (v := .ref (a 3)) C K inX3_forgetLeaves_X3 0 rfl rfl 4 (by decide) lkX3_forgetLeaves_16 rfl dX3_forgetLeaves_102 ?_
                refine j_iconst (pc := 105) (v := 5) C dX3_forgetLeaves_105 (by decide) ?_
                refine j_iload (pc := 106) C 7 dX3_forgetLeaves_106 rfl ?_
                refine j_imul (pc := 108) C dX3_forgetLeaves_108 ?_
                refine j_iload (pc := 109) C 0 dX3_forgetLeaves_109 rfl ?_
                refine j_iadd (pc := 111) C dX3_forgetLeaves_111 ?_
                refine j_aload_n (pc := 112) C 3 dX3_forgetLeaves_112 rfl rfl ?_
                refine j_get (pc := 113) (v := .ref (a 3)) C K inX3_forgetLeaves_X3 0 rfl rfl 4 (by decide) lkX3_forgetLeaves_16 rfl dX3_forgetLeaves_113 ?_
                refine j_iload (pc := 116) C 2 dX3_forgetLeaves_116 rfl ?_
                refine j_iload (pc := 118) C 0 dX3_forgetLeaves_118 rfl ?_
                refine j_iadd (pc := 120) C dX3_forgetLeaves_120 ?_
                obtain ⟨g17, hF⟩ := gd_some hF
                refine j_iald (pc := 121) C K 3 2 rfl rfl g17 dX3_forgetLeaves_121 ?_
                obtain ⟨g18, hF⟩ := gd_some hF
                refine j_iast (pc := 122) (ws' := (mw a k mW mC (upd mL (((5 : Int32) * v4) + 0).toNatClampNeg (mL (((5 : Int32) * v5) + 0).toNatClampNeg)) mR mQ mE mtb mnC mnL mnR mov mnQ mwr mwl mft mth mpl)) C K 3 2 rfl rfl g18 rfl dX3_forgetLeaves_122 ?_
                refine j_iinc (pc := 123) (v := 1) (lv' := [(8, .int 1), (7, .int 0), (6, .int ((5 : Int32) * v5)), (0, .ref (a 0)), (1, .int x1), (2, .int x2), (3, .int x3), (4, .int v4), (5, .int v5)]) C 0 dX3_forgetLeaves_123 rfl (by decide) (by decide) rfl ?_
                refine j_goto (pc := 126) (tgt := 95) C dX3_forgetLeaves_126 (by decide) ?_
                refine j_iload (pc := 95) C 0 dX3_forgetLeaves_95 rfl ?_
                refine j_iconst (pc := 97) (v := 5) C dX3_forgetLeaves_97 (by decide) ?_
                refine j_icmp_ge (pc := 98) (tgt := 129) C dX3_forgetLeaves_98 (by decide) (fun h => absurd h (by decide)) (fun _ => ?_)
                refine j_aload_n (pc := 101) C 3 dX3_forgetLeaves_101 rfl rfl ?_
                refine j_get (pc := 102) (v := .ref (a 3)) C K inX3_forgetLeaves_X3 0 rfl rfl 4 (by decide) lkX3_forgetLeaves_16 rfl dX3_forgetLeaves_102 ?_
                refine j_iconst (pc := 105) (v := 5) C dX3_forgetLeaves_105 (by decide) ?_
                refine j_iload (pc := 106) C 7 dX3_forgetLeaves_106 rfl ?_
                refine j_imul (pc := 108) C dX3_forgetLeaves_108 ?_
                refine j_iload (pc := 109) C 0 dX3_forgetLeaves_109 rfl ?_
                refine j_iadd (pc := 111) C dX3_forgetLeaves_111 ?_
                refine j_aload_n (pc := 112) C 3 dX3_forgetLeaves_112 rfl rfl ?_
                refine j_get (pc := 113) (v := .ref (a 3)) C K inX3_forgetLeaves_X3 0 rfl rfl 4 (by decide) lkX3_forgetLeaves_16 rfl dX3_forgetLeaves_113 ?_
                refine j_iload (pc := 116) C 2 dX3_forgetLeaves_116 rfl ?_
                refine j_iload (pc := 118) C 0 dX3_forgetLeaves_118 rfl ?_
                refine j_iadd (pc := 120) C dX3_forgetLeaves_120 ?_
                obtain ⟨g19, hF⟩ := gd_some hF
                refine j_iald (pc := 121) C K 3 2 rfl rfl g19 dX3_forgetLeaves_121 ?_
                obtain ⟨g20, hF⟩ := gd_some hF
                refine j_iast (pc := 122) (ws' := (mw a k mW mC (upd (upd mL (((5 : Int32) * v4) + 0).toNatClampNeg (mL (((5 : Int32) * v5) + 0).toNatClampNeg)) (((5 : Int32) * v4) + 1).toNatClampNeg ((upd mL (((5 : Int32) * v4) + 0).toNatClampNeg (mL (((5 : Int32) * v5) + 0).toNatClampNeg)) (((5 : Int32) * v5) + 1).toNatClampNeg)) mR mQ mE mtb mnC mnL mnR mov mnQ mwr mwl mft mth mpl)) C K 3 2 rfl rfl g20 rfl dX3_forgetLeaves_122 ?_
                refine j_iinc (pc := 123) (v := 2) (lv' := [(8, .int 2), (7, .int 0), (6, .int ((5 : Int32) * v5)), (0, .ref (a 0)), (1, .int x1), (2, .int x2), (3, .int x3), (4, .int v4), (5, .int v5)]) C 0 dX3_forgetLeaves_123 rfl (by decide) (by decide) rfl ?_
                refine j_goto (pc := 126) (tgt := 95) C dX3_forgetLeaves_126 (by decide) ?_
                refine j_iload (pc := 95) C 0 dX3_forgetLeaves_95 rfl ?_
                refine j_iconst (pc := 97) (v := 5) C dX3_forgetLeaves_97 (by decide) ?_
                refine j_icmp_ge (pc := 98) (tgt := 129) C dX3_forgetLeaves_98 (by decide) (fun h => absurd h (by decide)) (fun _ => ?_)
                refine j_aload_n (pc := 101) C 3 dX3_forgetLeaves_101 rfl rfl ?_
                refine j_get (pc := 102) (v := .ref (a 3)) C K inX3_forgetLeaves_X3 0 rfl rfl 4 (by decide) lkX3_forgetLeaves_16 rfl dX3_forgetLeaves_102 ?_
                refine j_iconst (pc := 105) (v := 5) C dX3_forgetLeaves_105 (by decide) ?_
                refine j_iload (pc := 106) C 7 dX3_forgetLeaves_106 rfl ?_
                refine j_imul (pc := 108) C dX3_forgetLeaves_108 ?_
                refine j_iload (pc := 109) C 0 dX3_forgetLeaves_109 rfl ?_
                refine j_iadd (pc := 111) C dX3_forgetLeaves_111 ?_
                refine j_aload_n (pc := 112) C 3 dX3_forgetLeaves_112 rfl rfl ?_
                refine j_get (pc := 113) (v := .ref (a 3)) C K inX3_forgetLeaves_X3 0 rfl rfl 4 (by decide) lkX3_forgetLeaves_16 rfl dX3_forgetLeaves_113 ?_
                refine j_iload (pc := 116) C 2 dX3_forgetLeaves_116 rfl ?_
                refine j_iload (pc := 118) C 0 dX3_forgetLeaves_118 rfl ?_
                refine j_iadd (pc := 120) C dX3_forgetLeaves_120 ?_
                obtain ⟨g21, hF⟩ := gd_some hF
                refine j_iald (pc := 121) C K 3 2 rfl rfl g21 dX3_forgetLeaves_121 ?_
                obtain ⟨g22, hF⟩ := gd_some hF
                refine j_iast (pc := 122) (ws' := (mw a k mW mC (upd (upd (upd mL (((5 : Int32) * v4) + 0).toNatClampNeg (mL (((5 : Int32) * v5) + 0).toNatClampNeg)) (((5 : Int32) * v4) + 1).toNatClampNeg ((upd mL (((5 : Int32) * v4) + 0).toNatClampNeg (mL (((5 : Int32) * v5) + 0).toNatClampNeg)) (((5 : Int32) * v5) + 1).toNatClampNeg)) (((5 : Int32) * v4) + 2).toNatClampNeg ((upd (upd mL (((5 : Int32) * v4) + 0).toNatClampNeg (mL (((5 : Int32) * v5) + 0).toNatClampNeg)) (((5 : Int32) * v4) + 1).toNatClampNeg ((upd mL (((5 : Int32) * v4) + 0).toNatClampNeg (mL (((5 : Int32) * v5) + 0).toNatClampNeg)) (((5 : Int32) * v5) + 1).toNatClampNeg)) (((5 : Int32) * v5) + 2).toNatClampNeg)) mR mQ mE mtb mnC mnL mnR mov mnQ mwr mwl mft mth mpl)) C K 3 2 rfl rfl g22 rfl dX3_forgetLeaves_122 ?_
                refine j_iinc (pc := 123) (v := 3) (lv' := [(8, .int 3), (7, .int 0), (6, .int ((5 : Int32) * v5)), (0, .ref (a 0)), (1, .int x1), (2, .int x2), (3, .int x3), (4, .int v4), (5, .int v5)]) C 0 dX3_forgetLeaves_123 rfl (by decide) (by decide) rfl ?_
                refine j_goto (pc := 126) (tgt := 95) C dX3_forgetLeaves_126 (by decide) ?_
                refine j_iload (pc := 95) C 0 dX3_forgetLeaves_95 rfl ?_
                refine j_iconst (pc := 97) (v := 5) C dX3_forgetLeaves_97 (by decide) ?_
                refine j_icmp_ge (pc := 98) (tgt := 129) C dX3_forgetLeaves_98 (by decide) (fun h => absurd h (by decide)) (fun _ => ?_)
                refine j_aload_n (pc := 101) C 3 dX3_forgetLeaves_101 rfl rfl ?_
                refine j_get (pc := 102) (v := .ref (a 3)) C K inX3_forgetLeaves_X3 0 rfl rfl 4 (by decide) lkX3_forgetLeaves_16 rfl dX3_forgetLeaves_102 ?_
                refine j_iconst (pc := 105) (v := 5) C dX3_forgetLeaves_105 (by decide) ?_
                refine j_iload (pc := 106) C 7 dX3_forgetLeaves_106 rfl ?_
                refine j_imul (pc := 108) C dX3_forgetLeaves_108 ?_
                refine j_iload (pc := 109) C 0 dX3_forgetLeaves_109 rfl ?_
                refine j_iadd (pc := 111) C dX3_forgetLeaves_111 ?_
                refine j_aload_n (pc := 112) C 3 dX3_forgetLeaves_112 rfl rfl ?_
                refine j_get (pc := 113) (v := .ref (a 3)) C K inX3_forgetLeaves_X3 0 rfl rfl 4 (by decide) lkX3_forgetLeaves_16 rfl dX3_forgetLeaves_113 ?_
                refine j_iload (pc := 116) C 2 dX3_forgetLeaves_116 rfl ?_
                refine j_iload (pc := 118) C 0 dX3_forgetLeaves_118 rfl ?_
                refine j_iadd (pc := 120) C dX3_forgetLeaves_120 ?_
                obtain ⟨g23, hF⟩ := gd_some hF
                refine j_iald (pc := 121) C K 3 2 rfl rfl g23 dX3_forgetLeaves_121 ?_
                obtain ⟨g24, hF⟩ := gd_some hF
                refine j_iast (pc := 122) (ws' := (mw a k mW mC (upd (upd (upd (upd mL (((5 : Int32) * v4) + 0).toNatClampNeg (mL (((5 : Int32) * v5) + 0).toNatClampNeg)) (((5 : Int32) * v4) + 1).toNatClampNeg ((upd mL (((5 : Int32) * v4) + 0).toNatClampNeg (mL (((5 : Int32) * v5) + 0).toNatClampNeg)) (((5 : Int32) * v5) + 1).toNatClampNeg)) (((5 : Int32) * v4) + 2).toNatClampNeg ((upd (upd mL (((5 : Int32) * v4) + 0).toNatClampNeg (mL (((5 : Int32) * v5) + 0).toNatClampNeg)) (((5 : Int32) * v4) + 1).toNatClampNeg ((upd mL (((5 : Int32) * v4) + 0).toNatClampNeg (mL (((5 : Int32) * v5) + 0).toNatClampNeg)) (((5 : Int32) * v5) + 1).toNatClampNeg)) (((5 : Int32) * v5) + 2).toNatClampNeg)) (((5 : Int32) * v4) + 3).toNatClampNeg ((upd (upd (upd mL (((5 : Int32) * v4) + 0).toNatClampNeg (mL (((5 : Int32) * v5) + 0).toNatClampNeg)) (((5 : Int32) * v4) + 1).toNatClampNeg ((upd mL (((5 : Int32) * v4) + 0).toNatClampNeg (mL (((5 : Int32) * v5) + 0).toNatClampNeg)) (((5 : Int32) * v5) + 1).toNatClampNeg)) (((5 : Int32) * v4) + 2).toNatClampNeg ((upd (upd mL (((5 : Int32) * v4) + 0).toNatClampNeg (mL (((5 : Int32) * v5) + 0).toNatClampNeg)) (((5 : Int32) * v4) + 1).toNatClampNeg ((upd mL (((5 : Int32) * v4) + 0).toNatClampNeg (mL (((5 : Int32) * v5) + 0).toNatClampNeg)) (((5 : Int32) * v5) + 1).toNatClampNeg)) (((5 : Int32) * v5) + 2).toNatClampNeg)) (((5 : Int32) * v5) + 3).toNatClampNeg)) mR mQ mE mtb mnC mnL mnR mov mnQ mwr mwl mft mth mpl)) C K 3 2 rfl rfl g24 rfl dX3_forgetLeaves_122 ?_
                refine j_iinc (pc := 123) (v := 4) (lv' := [(8, .int 4), (7, .int 0), (6, .int ((5 : Int32) * v5)), (0, .ref (a 0)), (1, .int x1), (2, .int x2), (3, .int x3), (4, .int v4), (5, .int v5)]) C 0 dX3_forgetLeaves_123 rfl (by decide) (by decide) rfl ?_
                refine j_goto (pc := 126) (tgt := 95) C dX3_forgetLeaves_126 (by decide) ?_
                refine j_iload (pc := 95) C 0 dX3_forgetLeaves_95 rfl ?_
                refine j_iconst (pc := 97) (v := 5) C dX3_forgetLeaves_97 (by decide) ?_
                refine j_icmp_ge (pc := 98) (tgt := 129) C dX3_forgetLeaves_98 (by decide) (fun h => absurd h (by decide)) (fun _ => ?_)
                refine j_aload_n (pc := 101) C 3 dX3_forgetLeaves_101 rfl rfl ?_
                refine j_get (pc := 102) (v := .ref (a 3)) C K inX3_forgetLeaves_X3 0 rfl rfl 4 (by decide) lkX3_forgetLeaves_16 rfl dX3_forgetLeaves_102 ?_
                refine j_iconst (pc := 105) (v := 5) C dX3_forgetLeaves_105 (by decide) ?_
                refine j_iload (pc := 106) C 7 dX3_forgetLeaves_106 rfl ?_
                refine j_imul (pc := 108) C dX3_forgetLeaves_108 ?_
                refine j_iload (pc := 109) C 0 dX3_forgetLeaves_109 rfl ?_
                refine j_iadd (pc := 111) C dX3_forgetLeaves_111 ?_
                refine j_aload_n (pc := 112) C 3 dX3_forgetLeaves_112 rfl rfl ?_
                refine j_get (pc := 113) (v := .ref (a 3)) C K inX3_forgetLeaves_X3 0 rfl rfl 4 (by decide) lkX3_forgetLeaves_16 rfl dX3_forgetLeaves_113 ?_
                refine j_iload (pc := 116) C 2 dX3_forgetLeaves_116 rfl ?_
                refine j_iload (pc := 118) C 0 dX3_forgetLeaves_118 rfl ?_
                refine j_iadd (pc := 120) C dX3_forgetLeaves_120 ?_
                obtain ⟨g25, hF⟩ := gd_some hF
                refine j_iald (pc := 121) C K 3 2 rfl rfl g25 dX3_forgetLeaves_121 ?_
                obtain ⟨g26, hF⟩ := gd_some hF
                refine j_iast (pc := 122) (ws' := (mw a k mW mC (upd (upd (upd (upd (upd mL (((5 : Int32) * v4) + 0).toNatClampNeg (mL (((5 : Int32) * v5) + 0).toNatClampNeg)) (((5 : Int32) * v4) + 1).toNatClampNeg ((upd mL (((5 : Int32) * v4) + 0).toNatClampNeg (mL (((5 : Int32) * v5) + 0).toNatClampNeg)) (((5 : Int32) * v5) + 1).toNatClampNeg)) (((5 : Int32) * v4) + 2).toNatClampNeg ((upd (upd mL (((5 : Int32) * v4) + 0).toNatClampNeg (mL (((5 : Int32) * v5) + 0).toNatClampNeg)) (((5 : Int32) * v4) + 1).toNatClampNeg ((upd mL (((5 : Int32) * v4) + 0).toNatClampNeg (mL (((5 : Int32) * v5) + 0).toNatClampNeg)) (((5 : Int32) * v5) + 1).toNatClampNeg)) (((5 : Int32) * v5) + 2).toNatClampNeg)) (((5 : Int32) * v4) + 3).toNatClampNeg ((upd (upd (upd mL (((5 : Int32) * v4) + 0).toNatClampNeg (mL (((5 : Int32) * v5) + 0).toNatClampNeg)) (((5 : Int32) * v4) + 1).toNatClampNeg ((upd mL (((5 : Int32) * v4) + 0).toNatClampNeg (mL (((5 : Int32) * v5) + 0).toNatClampNeg)) (((5 : Int32) * v5) + 1).toNatClampNeg)) (((5 : Int32) * v4) + 2).toNatClampNeg ((upd (upd mL (((5 : Int32) * v4) + 0).toNatClampNeg (mL (((5 : Int32) * v5) + 0).toNatClampNeg)) (((5 : Int32) * v4) + 1).toNatClampNeg ((upd mL (((5 : Int32) * v4) + 0).toNatClampNeg (mL (((5 : Int32) * v5) + 0).toNatClampNeg)) (((5 : Int32) * v5) + 1).toNatClampNeg)) (((5 : Int32) * v5) + 2).toNatClampNeg)) (((5 : Int32) * v5) + 3).toNatClampNeg)) (((5 : Int32) * v4) + 4).toNatClampNeg ((upd (upd (upd (upd mL (((5 : Int32) * v4) + 0).toNatClampNeg (mL (((5 : Int32) * v5) + 0).toNatClampNeg)) (((5 : Int32) * v4) + 1).toNatClampNeg ((upd mL (((5 : Int32) * v4) + 0).toNatClampNeg (mL (((5 : Int32) * v5) + 0).toNatClampNeg)) (((5 : Int32) * v5) + 1).toNatClampNeg)) (((5 : Int32) * v4) + 2).toNatClampNeg ((upd (upd mL (((5 : Int32) * v4) + 0).toNatClampNeg (mL (((5 : Int32) * v5) + 0).toNatClampNeg)) (((5 : Int32) * v4) + 1).toNatClampNeg ((upd mL (((5 : Int32) * v4) + 0).toNatClampNeg (mL (((5 : Int32) * v5) + 0).toNatClampNeg)) (((5 : Int32) * v5) + 1).toNatClampNeg)) (((5 : Int32) * v5) + 2).toNatClampNeg)) (((5 : Int32) * v4) + 3).toNatClampNeg ((upd (upd (upd mL (((5 : Int32) * v4) + 0).toNatClampNeg (mL (((5 : Int32) * v5) + 0).toNatClampNeg)) (((5 : Int32) * v4) + 1).toNatClampNeg ((upd mL (((5 : Int32) * v4) + 0).toNatClampNeg (mL (((5 : Int32) * v5) + 0).toNatClampNeg)) (((5 : Int32) * v5) + 1).toNatClampNeg)) (((5 : Int32) * v4) + 2).toNatClampNeg ((upd (upd mL (((5 : Int32) * v4) + 0).toNatClampNeg (mL (((5 : Int32) * v5) + 0).toNatClampNeg)) (((5 : Int32) * v4) + 1).toNatClampNeg ((upd mL (((5 : Int32) * v4) + 0).toNatClampNeg (mL (((5 : Int32) * v5) + 0).toNatClampNeg)) (((5 : Int32) * v5) + 1).toNatClampNeg)) (((5 : Int32) * v5) + 2).toNatClampNeg)) (((5 : Int32) * v5) + 3).toNatClampNeg)) (((5 : Int32) * v5) + 4).toNatClampNeg)) mR mQ mE mtb mnC mnL mnR mov mnQ mwr mwl mft mth mpl)) C K 3 2 rfl rfl g26 rfl dX3_forgetLeaves_122 ?_
                refine j_iinc (pc := 123) (v := 5) (lv' := [(8, .int 5), (7, .int 0), (6, .int ((5 : Int32) * v5)), (0, .ref (a 0)), (1, .int x1), (2, .int x2), (3, .int x3), (4, .int v4), (5, .int v5)]) C 0 dX3_forgetLeaves_123 rfl (by decide) (by decide) rfl ?_
                refine j_goto (pc := 126) (tgt := 95) C dX3_forgetLeaves_126 (by decide) ?_
                refine j_iload (pc := 95) C 0 dX3_forgetLeaves_95 rfl ?_
                refine j_iconst (pc := 97) (v := 5) C dX3_forgetLeaves_97 (by decide) ?_
                refine j_icmp_ge (pc := 98) (tgt := 129) C dX3_forgetLeaves_98 (by decide) (fun _ => ?_) (fun h => absurd h (by decide))
                refine j_iinc (pc := 129) (v := (v4 + 1)) (lv' := [(4, .int (v4 + 1)), (8, .int 5), (7, .int 0), (6, .int ((5 : Int32) * v5)), (0, .ref (a 0)), (1, .int x1), (2, .int x2), (3, .int x3), (5, .int v5)]) C 7 dX3_forgetLeaves_129 rfl rfl (by decide) rfl ?_
                refine j_iinc (pc := 132) (v := (v5 + 1)) (lv' := [(5, .int (v5 + 1)), (4, .int (v4 + 1)), (8, .int 5), (7, .int 0), (6, .int ((5 : Int32) * v5)), (0, .ref (a 0)), (1, .int x1), (2, .int x2), (3, .int x3)]) C 8 dX3_forgetLeaves_132 rfl rfl (by decide) rfl ?_
                refine j_goto (pc := 135) (tgt := 6) C dX3_forgetLeaves_135 (by decide) ?_
                exact j_lv [5, 6, 7, 8, 1, 0] rfl (ih _ _ _ _ hF)
              · replace hF := ifn hF c16
                refine j_iload_n (pc := 45) C 3 dX3_forgetLeaves_45 rfl rfl ?_
                refine j_sipush (pc := 46) (v := 4096) C dX3_forgetLeaves_46 (by decide) ?_
                refine j_icmp_ge (pc := 49) (tgt := 81) C dX3_forgetLeaves_49 (by decide) (fun c27 => ?_) (fun c27 => ?_)
                · replace hF := ifp hF c27
                  refine j_iconst (pc := 81) (v := 0) C dX3_forgetLeaves_81 (by decide) ?_
                  refine j_istore (pc := 82) (lv' := [(7, .int 0), (6, .int ((5 : Int32) * v5)), (0, .ref (a 0)), (1, .int x1), (2, .int x2), (3, .int x3), (4, .int v4), (5, .int v5)]) C dX3_forgetLeaves_82 (by decide) rfl ?_
                  refine j_iload (pc := 84) C 0 dX3_forgetLeaves_84 rfl ?_
                  refine j_if_eq (pc := 86) (tgt := 92) C dX3_forgetLeaves_86 (by decide) (fun _ => ?_) (fun h => absurd h (by decide))
                  refine j_iconst (pc := 92) (v := 0) C dX3_forgetLeaves_92 (by decide) ?_
                  refine j_istore (pc := 93) (lv' := [(8, .int 0), (7, .int 0), (6, .int ((5 : Int32) * v5)), (0, .ref (a 0)), (1, .int x1), (2, .int x2), (3, .int x3), (4, .int v4), (5, .int v5)]) C dX3_forgetLeaves_93 (by decide) rfl ?_
                  refine j_iload (pc := 95) C 0 dX3_forgetLeaves_95 rfl ?_
                  refine j_iconst (pc := 97) (v := 5) C dX3_forgetLeaves_97 (by decide) ?_
                  refine j_icmp_ge (pc := 98) (tgt := 129) C dX3_forgetLeaves_98 (by decide) (fun h => absurd h (by decide)) (fun _ => ?_)
                  refine j_aload_n (pc := 101) C 3 dX3_forgetLeaves_101 rfl rfl ?_
                  refine j_get (pc := 102) (v := .ref (a 3)) C K inX3_forgetLeaves_X3 0 rfl rfl 4 (by decide) lkX3_forgetLeaves_16 rfl dX3_forgetLeaves_102 ?_
                  refine j_iconst (pc := 105) (v := 5) C dX3_forgetLeaves_105 (by decide) ?_
                  refine j_iload (pc := 106) C 7 dX3_forgetLeaves_106 rfl ?_
                  refine j_imul (pc := 108) C dX3_forgetLeaves_108 ?_
                  refine j_iload (pc := 109) C 0 dX3_forgetLeaves_109 rfl ?_
                  refine j_iadd (pc := 111) C dX3_forgetLeaves_111 ?_
                  refine j_aload_n (pc := 112) C 3 dX3_forgetLeaves_112 rfl rfl ?_
                  refine j_get (pc := 113) (v := .ref (a 3)) C K inX3_forgetLeaves_X3 0 rfl rfl 4 (by decide) lkX3_forgetLeaves_16 rfl dX3_forgetLeaves_113 ?_
                  refine j_iload (pc := 116) C 2 dX3_forgetLeaves_116 rfl ?_
                  refine j_iload (pc := 118) C 0 dX3_forgetLeaves_118 rfl ?_
                  refine j_iadd (pc := 120) C dX3_forgetLeaves_120 ?_
                  obtain ⟨g28, hF⟩ := gd_some hF
                  refine j_iald (pc := 121) C K 3 2 rfl rfl g28 dX3_forgetLeaves_121 ?_
                  obtain ⟨g29, hF⟩ := gd_some hF
                  refine j_iast (pc := 122) (ws' := (mw a k mW mC (upd mL (((5 : Int32) * v4) + 0).toNatClampNeg (mL (((5 : Int32) * v5) + 0).toNatClampNeg)) mR mQ mE mtb mnC mnL mnR mov mnQ mwr mwl mft mth mpl)) C K 3 2 rfl rfl g29 rfl dX3_forgetLeaves_122 ?_
                  refine j_iinc (pc := 123) (v := 1) (lv' := [(8, .int 1), (7, .int 0), (6, .int ((5 : Int32) * v5)), (0, .ref (a 0)), (1, .int x1), (2, .int x2), (3, .int x3), (4, .int v4), (5, .int v5)]) C 0 dX3_forgetLeaves_123 rfl (by decide) (by decide) rfl ?_
                  refine j_goto (pc := 126) (tgt := 95) C dX3_forgetLeaves_126 (by decide) ?_
                  refine j_iload (pc := 95) C 0 dX3_forgetLeaves_95 rfl ?_
                  refine j_iconst (pc := 97) (v := 5) C dX3_forgetLeaves_97 (by decide) ?_
                  refine j_icmp_ge (pc := 98) (tgt := 129) C dX3_forgetLeaves_98 (by decide) (fun h => absurd h (by decide)) (fun _ => ?_)
                  refine j_aload_n (pc := 101) C 3 dX3_forgetLeaves_101 rfl rfl ?_
                  refine j_get (pc := 102) (v := .ref (a 3)) C K inX3_forgetLeaves_X3 0 rfl rfl 4 (by decide) lkX3_forgetLeaves_16 rfl dX3_forgetLeaves_102 ?_
                  refine j_iconst (pc := 105) (v := 5) C dX3_forgetLeaves_105 (by decide) ?_
                  refine j_iload (pc := 106) C 7 dX3_forgetLeaves_106 rfl ?_
                  refine j_imul (pc := 108) C dX3_forgetLeaves_108 ?_
                  refine j_iload (pc := 109) C 0 dX3_forgetLeaves_109 rfl ?_
                  refine j_iadd (pc := 111) C dX3_forgetLeaves_111 ?_
                  refine j_aload_n (pc := 112) C 3 dX3_forgetLeaves_112 rfl rfl ?_
                  refine j_get (pc := 113) (v := .ref (a 3)) C K inX3_forgetLeaves_X3 0 rfl rfl 4 (by decide) lkX3_forgetLeaves_16 rfl dX3_forgetLeaves_113 ?_
                  refine j_iload (pc := 116) C 2 dX3_forgetLeaves_116 rfl ?_
                  refine j_iload (pc := 118) C 0 dX3_forgetLeaves_118 rfl ?_
                  refine j_iadd (pc := 120) C dX3_forgetLeaves_120 ?_
                  obtain ⟨g30, hF⟩ := gd_some hF
                  refine j_iald (pc := 121) C K 3 2 rfl rfl g30 dX3_forgetLeaves_121 ?_
                  obtain ⟨g31, hF⟩ := gd_some hF
                  refine j_iast (pc := 122) (ws' := (mw a k mW mC (upd (upd mL (((5 : Int32) * v4) + 0).toNatClampNeg (mL (((5 : Int32) * v5) + 0).toNatClampNeg)) (((5 : Int32) * v4) + 1).toNatClampNeg ((upd mL (((5 : Int32) * v4) + 0).toNatClampNeg (mL (((5 : Int32) * v5) + 0).toNatClampNeg)) (((5 : Int32) * v5) + 1).toNatClampNeg)) mR mQ mE mtb mnC mnL mnR mov mnQ mwr mwl mft mth mpl)) C K 3 2 rfl rfl g31 rfl dX3_forgetLeaves_122 ?_
                  refine j_iinc (pc := 123) (v := 2) (lv' := [(8, .int 2), (7, .int 0), (6, .int ((5 : Int32) * v5)), (0, .ref (a 0)), (1, .int x1), (2, .int x2), (3, .int x3), (4, .int v4), (5, .int v5)]) C 0 dX3_forgetLeaves_123 rfl (by decide) (by decide) rfl ?_
                  refine j_goto (pc := 126) (tgt := 95) C dX3_forgetLeaves_126 (by decide) ?_
                  refine j_iload (pc := 95) C 0 dX3_forgetLeaves_95 rfl ?_
                  refine j_iconst (pc := 97) (v := 5) C dX3_forgetLeaves_97 (by decide) ?_
                  refine j_icmp_ge (pc := 98) (tgt := 129) C dX3_forgetLeaves_98 (by decide) (fun h => absurd h (by decide)) (fun _ => ?_)
                  refine j_aload_n (pc := 101) C 3 dX3_forgetLeaves_101 rfl rfl ?_
                  refine j_get (pc := 102) (v := .ref (a 3)) C K inX3_forgetLeaves_X3 0 rfl rfl 4 (by decide) lkX3_forgetLeaves_16 rfl dX3_forgetLeaves_102 ?_
                  refine j_iconst (pc := 105) (v := 5) C dX3_forgetLeaves_105 (by decide) ?_
                  refine j_iload (pc := 106) C 7 dX3_forgetLeaves_106 rfl ?_
                  refine j_imul (pc := 108) C dX3_forgetLeaves_108 ?_
                  refine j_iload (pc := 109) C 0 dX3_forgetLeaves_109 rfl ?_
                  refine j_iadd (pc := 111) C dX3_forgetLeaves_111 ?_
                  refine j_aload_n (pc := 112) C 3 dX3_forgetLeaves_112 rfl rfl ?_
                  refine j_get (pc := 113) (v := .ref (a 3)) C K inX3_forgetLeaves_X3 0 rfl rfl 4 (by decide) lkX3_forgetLeaves_16 rfl dX3_forgetLeaves_113 ?_
                  refine j_iload (pc := 116) C 2 dX3_forgetLeaves_116 rfl ?_
                  refine j_iload (pc := 118) C 0 dX3_forgetLeaves_118 rfl ?_
                  refine j_iadd (pc := 120) C dX3_forgetLeaves_120 ?_
                  obtain ⟨g32, hF⟩ := gd_some hF
                  refine j_iald (pc := 121) C K 3 2 rfl rfl g32 dX3_forgetLeaves_121 ?_
                  obtain ⟨g33, hF⟩ := gd_some hF
                  refine j_iast (pc := 122) (ws' := (mw a k mW mC (upd (upd (upd mL (((5 : Int32) * v4) + 0).toNatClampNeg (mL (((5 : Int32) * v5) + 0).toNatClampNeg)) (((5 : Int32) * v4) + 1).toNatClampNeg ((upd mL (((5 : Int32) * v4) + 0).toNatClampNeg (mL (((5 : Int32) * v5) + 0).toNatClampNeg)) (((5 : Int32) * v5) + 1).toNatClampNeg)) (((5 : Int32) * v4) + 2).toNatClampNeg ((upd (upd mL (((5 : Int32) * v4) + 0).toNatClampNeg (mL (((5 : Int32) * v5) + 0).toNatClampNeg)) (((5 : Int32) * v4) + 1).toNatClampNeg ((upd mL (((5 : Int32) * v4) + 0).toNatClampNeg (mL (((5 : Int32) * v5) + 0).toNatClampNeg)) (((5 : Int32) * v5) + 1).toNatClampNeg)) (((5 : Int32) * v5) + 2).toNatClampNeg)) mR mQ mE mtb mnC mnL mnR mov mnQ mwr mwl mft mth mpl)) C K 3 2 rfl rfl g33 rfl dX3_forgetLeaves_122 ?_
                  refine j_iinc (pc := 123) (v := 3) (lv' := [(8, .int 3), (7, .int 0), (6, .int ((5 : Int32) * v5)), (0, .ref (a 0)), (1, .int x1), (2, .int x2), (3, .int x3), (4, .int v4), (5, .int v5)]) C 0 dX3_forgetLeaves_123 rfl (by decide) (by decide) rfl ?_
                  refine j_goto (pc := 126) (tgt := 95) C dX3_forgetLeaves_126 (by decide) ?_
                  refine j_iload (pc := 95) C 0 dX3_forgetLeaves_95 rfl ?_
                  refine j_iconst (pc := 97) (v := 5) C dX3_forgetLeaves_97 (by decide) ?_
                  refine j_icmp_ge (pc := 98) (tgt := 129) C dX3_forgetLeaves_98 (by decide) (fun h => absurd h (by decide)) (fun _ => ?_)
                  refine j_aload_n (pc := 101) C 3 dX3_forgetLeaves_101 rfl rfl ?_
                  refine j_get (pc := 102) (v := .ref (a 3)) C K inX3_forgetLeaves_X3 0 rfl rfl 4 (by decide) lkX3_forgetLeaves_16 rfl dX3_forgetLeaves_102 ?_
                  refine j_iconst (pc := 105) (v := 5) C dX3_forgetLeaves_105 (by decide) ?_
                  refine j_iload (pc := 106) C 7 dX3_forgetLeaves_106 rfl ?_
                  refine j_imul (pc := 108) C dX3_forgetLeaves_108 ?_
                  refine j_iload (pc := 109) C 0 dX3_forgetLeaves_109 rfl ?_
                  refine j_iadd (pc := 111) C dX3_forgetLeaves_111 ?_
                  refine j_aload_n (pc := 112) C 3 dX3_forgetLeaves_112 rfl rfl ?_
                  refine j_get (pc := 113) (v := .ref (a 3)) C K inX3_forgetLeaves_X3 0 rfl rfl 4 (by decide) lkX3_forgetLeaves_16 rfl dX3_forgetLeaves_113 ?_
                  refine j_iload (pc := 116) C 2 dX3_forgetLeaves_116 rfl ?_
                  refine j_iload (pc := 118) C 0 dX3_forgetLeaves_118 rfl ?_
                  refine j_iadd (pc := 120) C dX3_forgetLeaves_120 ?_
                  obtain ⟨g34, hF⟩ := gd_some hF
                  refine j_iald (pc := 121) C K 3 2 rfl rfl g34 dX3_forgetLeaves_121 ?_
                  obtain ⟨g35, hF⟩ := gd_some hF
                  refine j_iast (pc := 122) (ws' := (mw a k mW mC (upd (upd (upd (upd mL (((5 : Int32) * v4) + 0).toNatClampNeg (mL (((5 : Int32) * v5) + 0).toNatClampNeg)) (((5 : Int32) * v4) + 1).toNatClampNeg ((upd mL (((5 : Int32) * v4) + 0).toNatClampNeg (mL (((5 : Int32) * v5) + 0).toNatClampNeg)) (((5 : Int32) * v5) + 1).toNatClampNeg)) (((5 : Int32) * v4) + 2).toNatClampNeg ((upd (upd mL (((5 : Int32) * v4) + 0).toNatClampNeg (mL (((5 : Int32) * v5) + 0).toNatClampNeg)) (((5 : Int32) * v4) + 1).toNatClampNeg ((upd mL (((5 : Int32) * v4) + 0).toNatClampNeg (mL (((5 : Int32) * v5) + 0).toNatClampNeg)) (((5 : Int32) * v5) + 1).toNatClampNeg)) (((5 : Int32) * v5) + 2).toNatClampNeg)) (((5 : Int32) * v4) + 3).toNatClampNeg ((upd (upd (upd mL (((5 : Int32) * v4) + 0).toNatClampNeg (mL (((5 : Int32) * v5) + 0).toNatClampNeg)) (((5 : Int32) * v4) + 1).toNatClampNeg ((upd mL (((5 : Int32) * v4) + 0).toNatClampNeg (mL (((5 : Int32) * v5) + 0).toNatClampNeg)) (((5 : Int32) * v5) + 1).toNatClampNeg)) (((5 : Int32) * v4) + 2).toNatClampNeg ((upd (upd mL (((5 : Int32) * v4) + 0).toNatClampNeg (mL (((5 : Int32) * v5) + 0).toNatClampNeg)) (((5 : Int32) * v4) + 1).toNatClampNeg ((upd mL (((5 : Int32) * v4) + 0).toNatClampNeg (mL (((5 : Int32) * v5) + 0).toNatClampNeg)) (((5 : Int32) * v5) + 1).toNatClampNeg)) (((5 : Int32) * v5) + 2).toNatClampNeg)) (((5 : Int32) * v5) + 3).toNatClampNeg)) mR mQ mE mtb mnC mnL mnR mov mnQ mwr mwl mft mth mpl)) C K 3 2 rfl rfl g35 rfl dX3_forgetLeaves_122 ?_
                  refine j_iinc (pc := 123) (v := 4) (lv' := [(8, .int 4), (7, .int 0), (6, .int ((5 : Int32) * v5)), (0, .ref (a 0)), (1, .int x1), (2, .int x2), (3, .int x3), (4, .int v4), (5, .int v5)]) C 0 dX3_forgetLeaves_123 rfl (by decide) (by decide) rfl ?_
                  refine j_goto (pc := 126) (tgt := 95) C dX3_forgetLeaves_126 (by decide) ?_
                  refine j_iload (pc := 95) C 0 dX3_forgetLeaves_95 rfl ?_
                  refine j_iconst (pc := 97) (v := 5) C dX3_forgetLeaves_97 (by decide) ?_
                  refine j_icmp_ge (pc := 98) (tgt := 129) C dX3_forgetLeaves_98 (by decide) (fun h => absurd h (by decide)) (fun _ => ?_)
                  refine j_aload_n (pc := 101) C 3 dX3_forgetLeaves_101 rfl rfl ?_
                  refine j_get (pc := 102) (v := .ref (a 3)) C K inX3_forgetLeaves_X3 0 rfl rfl 4 (by decide) lkX3_forgetLeaves_16 rfl dX3_forgetLeaves_102 ?_
                  refine j_iconst (pc := 105) (v := 5) C dX3_forgetLeaves_105 (by decide) ?_
                  refine j_iload (pc := 106) C 7 dX3_forgetLeaves_106 rfl ?_
                  refine j_imul (pc := 108) C dX3_forgetLeaves_108 ?_
                  refine j_iload (pc := 109) C 0 dX3_forgetLeaves_109 rfl ?_
                  refine j_iadd (pc := 111) C dX3_forgetLeaves_111 ?_
                  refine j_aload_n (pc := 112) C 3 dX3_forgetLeaves_112 rfl rfl ?_
                  refine j_get (pc := 113) (v := .ref (a 3)) C K inX3_forgetLeaves_X3 0 rfl rfl 4 (by decide) lkX3_forgetLeaves_16 rfl dX3_forgetLeaves_113 ?_
                  refine j_iload (pc := 116) C 2 dX3_forgetLeaves_116 rfl ?_
                  refine j_iload (pc := 118) C 0 dX3_forgetLeaves_118 rfl ?_
                  refine j_iadd (pc := 120) C dX3_forgetLeaves_120 ?_
                  obtain ⟨g36, hF⟩ := gd_some hF
                  refine j_iald (pc := 121) C K 3 2 rfl rfl g36 dX3_forgetLeaves_121 ?_
                  obtain ⟨g37, hF⟩ := gd_some hF
                  refine j_iast (pc := 122) (ws' := (mw a k mW mC (upd (upd (upd (upd (upd mL (((5 : Int32) * v4) + 0).toNatClampNeg (mL (((5 : Int32) * v5) + 0).toNatClampNeg)) (((5 : Int32) * v4) + 1).toNatClampNeg ((upd mL (((5 : Int32) * v4) + 0).toNatClampNeg (mL (((5 : Int32) * v5) + 0).toNatClampNeg)) (((5 : Int32) * v5) + 1).toNatClampNeg)) (((5 : Int32) * v4) + 2).toNatClampNeg ((upd (upd mL (((5 : Int32) * v4) + 0).toNatClampNeg (mL (((5 : Int32) * v5) + 0).toNatClampNeg)) (((5 : Int32) * v4) + 1).toNatClampNeg ((upd mL (((5 : Int32) * v4) + 0).toNatClampNeg (mL (((5 : Int32) * v5) + 0).toNatClampNeg)) (((5 : Int32) * v5) + 1).toNatClampNeg)) (((5 : Int32) * v5) + 2).toNatClampNeg)) (((5 : Int32) * v4) + 3).toNatClampNeg ((upd (upd (upd mL (((5 : Int32) * v4) + 0).toNatClampNeg (mL (((5 : Int32) * v5) + 0).toNatClampNeg)) (((5 : Int32) * v4) + 1).toNatClampNeg ((upd mL (((5 : Int32) * v4) + 0).toNatClampNeg (mL (((5 : Int32) * v5) + 0).toNatClampNeg)) (((5 : Int32) * v5) + 1).toNatClampNeg)) (((5 : Int32) * v4) + 2).toNatClampNeg ((upd (upd mL (((5 : Int32) * v4) + 0).toNatClampNeg (mL (((5 : Int32) * v5) + 0).toNatClampNeg)) (((5 : Int32) * v4) + 1).toNatClampNeg ((upd mL (((5 : Int32) * v4) + 0).toNatClampNeg (mL (((5 : Int32) * v5) + 0).toNatClampNeg)) (((5 : Int32) * v5) + 1).toNatClampNeg)) (((5 : Int32) * v5) + 2).toNatClampNeg)) (((5 : Int32) * v5) + 3).toNatClampNeg)) (((5 : Int32) * v4) + 4).toNatClampNeg ((upd (upd (upd (upd mL (((5 : Int32) * v4) + 0).toNatClampNeg (mL (((5 : Int32) * v5) + 0).toNatClampNeg)) (((5 : Int32) * v4) + 1).toNatClampNeg ((upd mL (((5 : Int32) * v4) + 0).toNatClampNeg (mL (((5 : Int32) * v5) + 0).toNatClampNeg)) (((5 : Int32) * v5) + 1).toNatClampNeg)) (((5 : Int32) * v4) + 2).toNatClampNeg ((upd (upd mL (((5 : Int32) * v4) + 0).toNatClampNeg (mL (((5 : Int32) * v5) + 0).toNatClampNeg)) (((5 : Int32) * v4) + 1).toNatClampNeg ((upd mL (((5 : Int32) * v4) + 0).toNatClampNeg (mL (((5 : Int32) * v5) + 0).toNatClampNeg)) (((5 : Int32) * v5) + 1).toNatClampNeg)) (((5 : Int32) * v5) + 2).toNatClampNeg)) (((5 : Int32) * v4) + 3).toNatClampNeg ((upd (upd (upd mL (((5 : Int32) * v4) + 0).toNatClampNeg (mL (((5 : Int32) * v5) + 0).toNatClampNeg)) (((5 : Int32) * v4) + 1).toNatClampNeg ((upd mL (((5 : Int32) * v4) + 0).toNatClampNeg (mL (((5 : Int32) * v5) + 0).toNatClampNeg)) (((5 : Int32) * v5) + 1).toNatClampNeg)) (((5 : Int32) * v4) + 2).toNatClampNeg ((upd (upd mL (((5 : Int32) * v4) + 0).toNatClampNeg (mL (((5 : Int32) * v5) + 0).toNatClampNeg)) (((5 : Int32) * v4) + 1).toNatClampNeg ((upd mL (((5 : Int32) * v4) + 0).toNatClampNeg (mL (((5 : Int32) * v5) + 0).toNatClampNeg)) (((5 : Int32) * v5) + 1).toNatClampNeg)) (((5 : Int32) * v5) + 2).toNatClampNeg)) (((5 : Int32) * v5) + 3).toNatClampNeg)) (((5 : Int32) * v5) + 4).toNatClampNeg)) mR mQ mE mtb mnC mnL mnR mov mnQ mwr mwl mft mth mpl)) C K 3 2 rfl rfl g37 rfl dX3_forgetLeaves_122 ?_
                  refine j_iinc (pc := 123) (v := 5) (lv' := [(8, .int 5), (7, .int 0), (6, .int ((5 : Int32) * v5)), (0, .ref (a 0)), (1, .int x1), (2, .int x2), (3, .int x3), (4, .int v4), (5, .int v5)]) C 0 dX3_forgetLeaves_123 rfl (by decide) (by decide) rfl ?_
                  refine j_goto (pc := 126) (tgt := 95) C dX3_forgetLeaves_126 (by decide) ?_
                  refine j_iload (pc := 95) C 0 dX3_forgetLeaves_95 rfl ?_
                  refine j_iconst (pc := 97) (v := 5) C dX3_forgetLeaves_97 (by decide) ?_
                  refine j_icmp_ge (pc := 98) (tgt := 129) C dX3_forgetLeaves_98 (by decide) (fun _ => ?_) (fun h => absurd h (by decide))
                  refine j_iinc (pc := 129) (v := (v4 + 1)) (lv' := [(4, .int (v4 + 1)), (8, .int 5), (7, .int 0), (6, .int ((5 : Int32) * v5)), (0, .ref (a 0)), (1, .int x1), (2, .int x2), (3, .int x3), (5, .int v5)]) C 7 dX3_forgetLeaves_129 rfl rfl (by decide) rfl ?_
                  refine j_iinc (pc := 132) (v := (v5 + 1)) (lv' := [(5, .int (v5 + 1)), (4, .int (v4 + 1)), (8, .int 5), (7, .int 0), (6, .int ((5 : Int32) * v5)), (0, .ref (a 0)), (1, .int x1), (2, .int x2), (3, .int x3)]) C 8 dX3_forgetLeaves_132 rfl rfl (by decide) rfl ?_
                  refine j_goto (pc := 135) (tgt := 6) C dX3_forgetLeaves_135 (by decide) ?_
                  exact j_lv [5, 6, 7, 8, 1, 0] rfl (ih _ _ _ _ hF)
                · replace hF := ifn hF c27
                  refine j_iload_n (pc := 52) C 3 dX3_forgetLeaves_52 rfl rfl ?_
                  refine j_iconst (pc := 53) (v := 4) C dX3_forgetLeaves_53 (by decide) ?_
                  refine j_aload_n (pc := 54) C 1 dX3_forgetLeaves_54 rfl rfl ?_
                  refine j_get (pc := 55) (v := .ref (a 3)) C K inX3_forgetLeaves_X3 0 rfl rfl 4 (by decide) lkX3_forgetLeaves_16 rfl dX3_forgetLeaves_55 ?_
                  refine j_iload (pc := 58) C 0 dX3_forgetLeaves_58 rfl ?_
                  refine j_iconst (pc := 60) (v := 1) C dX3_forgetLeaves_60 (by decide) ?_
                  refine j_iadd (pc := 61) C dX3_forgetLeaves_61 ?_
                  obtain ⟨g38, hF⟩ := gd_some hF
                  refine j_iald (pc := 62) C K 3 2 rfl rfl g38 dX3_forgetLeaves_62 ?_
                  refine j_imul (pc := 63) C dX3_forgetLeaves_63 ?_
                  refine j_ishr (pc := 64) C dX3_forgetLeaves_64 ?_
                  refine j_aload_n (pc := 65) C 1 dX3_forgetLeaves_65 rfl rfl ?_
                  refine j_get (pc := 66) (v := .ref (a 3)) C K inX3_forgetLeaves_X3 0 rfl rfl 4 (by decide) lkX3_forgetLeaves_16 rfl dX3_forgetLeaves_66 ?_
                  refine j_iload (pc := 69) C 0 dX3_forgetLeaves_69 rfl ?_
                  refine j_iconst (pc := 71) (v := 2) C dX3_forgetLeaves_71 (by decide) ?_
                  refine j_iadd (pc := 72) C dX3_forgetLeaves_72 ?_
                  obtain ⟨g39, hF⟩ := gd_some hF
                  refine j_iald (pc := 73) C K 3 2 rfl rfl g39 dX3_forgetLeaves_73 ?_
                  refine j_icmp_ne (pc := 74) (tgt := 81) C dX3_forgetLeaves_74 (by decide) (fun c40 => ?_) (fun c40 => ?_)
                  · replace hF := ifn hF c40
                    refine j_iconst (pc := 81) (v := 0) C dX3_forgetLeaves_81 (by decide) ?_
                    refine j_istore (pc := 82) (lv' := [(7, .int 0), (6, .int ((5 : Int32) * v5)), (0, .ref (a 0)), (1, .int x1), (2, .int x2), (3, .int x3), (4, .int v4), (5, .int v5)]) C dX3_forgetLeaves_82 (by decide) rfl ?_
                    refine j_iload (pc := 84) C 0 dX3_forgetLeaves_84 rfl ?_
                    refine j_if_eq (pc := 86) (tgt := 92) C dX3_forgetLeaves_86 (by decide) (fun _ => ?_) (fun h => absurd h (by decide))
                    refine j_iconst (pc := 92) (v := 0) C dX3_forgetLeaves_92 (by decide) ?_
                    refine j_istore (pc := 93) (lv' := [(8, .int 0), (7, .int 0), (6, .int ((5 : Int32) * v5)), (0, .ref (a 0)), (1, .int x1), (2, .int x2), (3, .int x3), (4, .int v4), (5, .int v5)]) C dX3_forgetLeaves_93 (by decide) rfl ?_
                    refine j_iload (pc := 95) C 0 dX3_forgetLeaves_95 rfl ?_
                    refine j_iconst (pc := 97) (v := 5) C dX3_forgetLeaves_97 (by decide) ?_
                    refine j_icmp_ge (pc := 98) (tgt := 129) C dX3_forgetLeaves_98 (by decide) (fun h => absurd h (by decide)) (fun _ => ?_)
                    refine j_aload_n (pc := 101) C 3 dX3_forgetLeaves_101 rfl rfl ?_
                    refine j_get (pc := 102) (v := .ref (a 3)) C K inX3_forgetLeaves_X3 0 rfl rfl 4 (by decide) lkX3_forgetLeaves_16 rfl dX3_forgetLeaves_102 ?_
                    refine j_iconst (pc := 105) (v := 5) C dX3_forgetLeaves_105 (by decide) ?_
                    refine j_iload (pc := 106) C 7 dX3_forgetLeaves_106 rfl ?_
                    refine j_imul (pc := 108) C dX3_forgetLeaves_108 ?_
                    refine j_iload (pc := 109) C 0 dX3_forgetLeaves_109 rfl ?_
                    refine j_iadd (pc := 111) C dX3_forgetLeaves_111 ?_
                    refine j_aload_n (pc := 112) C 3 dX3_forgetLeaves_112 rfl rfl ?_
                    refine j_get (pc := 113) (v := .ref (a 3)) C K inX3_forgetLeaves_X3 0 rfl rfl 4 (by decide) lkX3_forgetLeaves_16 rfl dX3_forgetLeaves_113 ?_
                    refine j_iload (pc := 116) C 2 dX3_forgetLeaves_116 rfl ?_
                    refine j_iload (pc := 118) C 0 dX3_forgetLeaves_118 rfl ?_
                    refine j_iadd (pc := 120) C dX3_forgetLeaves_120 ?_
                    obtain ⟨g41, hF⟩ := gd_some hF
                    refine j_iald (pc := 121) C K 3 2 rfl rfl g41 dX3_forgetLeaves_121 ?_
                    obtain ⟨g42, hF⟩ := gd_some hF
                    refine j_iast (pc := 122) (ws' := (mw a k mW mC (upd mL (((5 : Int32) * v4) + 0).toNatClampNeg (mL (((5 : Int32) * v5) + 0).toNatClampNeg)) mR mQ mE mtb mnC mnL mnR mov mnQ mwr mwl mft mth mpl)) C K 3 2 rfl rfl g42 rfl dX3_forgetLeaves_122 ?_
                    refine j_iinc (pc := 123) (v := 1) (lv' := [(8, .int 1), (7, .int 0), (6, .int ((5 : Int32) * v5)), (0, .ref (a 0)), (1, .int x1), (2, .int x2), (3, .int x3), (4, .int v4), (5, .int v5)]) C 0 dX3_forgetLeaves_123 rfl (by decide) (by decide) rfl ?_
                    refine j_goto (pc := 126) (tgt := 95) C dX3_forgetLeaves_126 (by decide) ?_
                    refine j_iload (pc := 95) C 0 dX3_forgetLeaves_95 rfl ?_
                    refine j_iconst (pc := 97) (v := 5) C dX3_forgetLeaves_97 (by decide) ?_
                    refine j_icmp_ge (pc := 98) (tgt := 129) C dX3_forgetLeaves_98 (by decide) (fun h => absurd h (by decide)) (fun _ => ?_)
                    refine j_aload_n (pc := 101) C 3 dX3_forgetLeaves_101 rfl rfl ?_
                    refine j_get (pc := 102) (v := .ref (a 3)) C K inX3_forgetLeaves_X3 0 rfl rfl 4 (by decide) lkX3_forgetLeaves_16 rfl dX3_forgetLeaves_102 ?_
                    refine j_iconst (pc := 105) (v := 5) C dX3_forgetLeaves_105 (by decide) ?_
                    refine j_iload (pc := 106) C 7 dX3_forgetLeaves_106 rfl ?_
                    refine j_imul (pc := 108) C dX3_forgetLeaves_108 ?_
                    refine j_iload (pc := 109) C 0 dX3_forgetLeaves_109 rfl ?_
                    refine j_iadd (pc := 111) C dX3_forgetLeaves_111 ?_
                    refine j_aload_n (pc := 112) C 3 dX3_forgetLeaves_112 rfl rfl ?_
                    refine j_get (pc := 113) (v := .ref (a 3)) C K inX3_forgetLeaves_X3 0 rfl rfl 4 (by decide) lkX3_forgetLeaves_16 rfl dX3_forgetLeaves_113 ?_
                    refine j_iload (pc := 116) C 2 dX3_forgetLeaves_116 rfl ?_
                    refine j_iload (pc := 118) C 0 dX3_forgetLeaves_118 rfl ?_
                    refine j_iadd (pc := 120) C dX3_forgetLeaves_120 ?_
                    obtain ⟨g43, hF⟩ := gd_some hF
                    refine j_iald (pc := 121) C K 3 2 rfl rfl g43 dX3_forgetLeaves_121 ?_
                    obtain ⟨g44, hF⟩ := gd_some hF
                    refine j_iast (pc := 122) (ws' := (mw a k mW mC (upd (upd mL (((5 : Int32) * v4) + 0).toNatClampNeg (mL (((5 : Int32) * v5) + 0).toNatClampNeg)) (((5 : Int32) * v4) + 1).toNatClampNeg ((upd mL (((5 : Int32) * v4) + 0).toNatClampNeg (mL (((5 : Int32) * v5) + 0).toNatClampNeg)) (((5 : Int32) * v5) + 1).toNatClampNeg)) mR mQ mE mtb mnC mnL mnR mov mnQ mwr mwl mft mth mpl)) C K 3 2 rfl rfl g44 rfl dX3_forgetLeaves_122 ?_
                    refine j_iinc (pc := 123) (v := 2) (lv' := [(8, .int 2), (7, .int 0), (6, .int ((5 : Int32) * v5)), (0, .ref (a 0)), (1, .int x1), (2, .int x2), (3, .int x3), (4, .int v4), (5, .int v5)]) C 0 dX3_forgetLeaves_123 rfl (by decide) (by decide) rfl ?_
                    refine j_goto (pc := 126) (tgt := 95) C dX3_forgetLeaves_126 (by decide) ?_
                    refine j_iload (pc := 95) C 0 dX3_forgetLeaves_95 rfl ?_
                    refine j_iconst (pc := 97) (v := 5) C dX3_forgetLeaves_97 (by decide) ?_
                    refine j_icmp_ge (pc := 98) (tgt := 129) C dX3_forgetLeaves_98 (by decide) (fun h => absurd h (by decide)) (fun _ => ?_)
                    refine j_aload_n (pc := 101) C 3 dX3_forgetLeaves_101 rfl rfl ?_
                    refine j_get (pc := 102) (v := .ref (a 3)) C K inX3_forgetLeaves_X3 0 rfl rfl 4 (by decide) lkX3_forgetLeaves_16 rfl dX3_forgetLeaves_102 ?_
                    refine j_iconst (pc := 105) (v := 5) C dX3_forgetLeaves_105 (by decide) ?_
                    refine j_iload (pc := 106) C 7 dX3_forgetLeaves_106 rfl ?_
                    refine j_imul (pc := 108) C dX3_forgetLeaves_108 ?_
                    refine j_iload (pc := 109) C 0 dX3_forgetLeaves_109 rfl ?_
                    refine j_iadd (pc := 111) C dX3_forgetLeaves_111 ?_
                    refine j_aload_n (pc := 112) C 3 dX3_forgetLeaves_112 rfl rfl ?_
                    refine j_get (pc := 113) (v := .ref (a 3)) C K inX3_forgetLeaves_X3 0 rfl rfl 4 (by decide) lkX3_forgetLeaves_16 rfl dX3_forgetLeaves_113 ?_
                    refine j_iload (pc := 116) C 2 dX3_forgetLeaves_116 rfl ?_
                    refine j_iload (pc := 118) C 0 dX3_forgetLeaves_118 rfl ?_
                    refine j_iadd (pc := 120) C dX3_forgetLeaves_120 ?_
                    obtain ⟨g45, hF⟩ := gd_some hF
                    refine j_iald (pc := 121) C K 3 2 rfl rfl g45 dX3_forgetLeaves_121 ?_
                    obtain ⟨g46, hF⟩ := gd_some hF
                    refine j_iast (pc := 122) (ws' := (mw a k mW mC (upd (upd (upd mL (((5 : Int32) * v4) + 0).toNatClampNeg (mL (((5 : Int32) * v5) + 0).toNatClampNeg)) (((5 : Int32) * v4) + 1).toNatClampNeg ((upd mL (((5 : Int32) * v4) + 0).toNatClampNeg (mL (((5 : Int32) * v5) + 0).toNatClampNeg)) (((5 : Int32) * v5) + 1).toNatClampNeg)) (((5 : Int32) * v4) + 2).toNatClampNeg ((upd (upd mL (((5 : Int32) * v4) + 0).toNatClampNeg (mL (((5 : Int32) * v5) + 0).toNatClampNeg)) (((5 : Int32) * v4) + 1).toNatClampNeg ((upd mL (((5 : Int32) * v4) + 0).toNatClampNeg (mL (((5 : Int32) * v5) + 0).toNatClampNeg)) (((5 : Int32) * v5) + 1).toNatClampNeg)) (((5 : Int32) * v5) + 2).toNatClampNeg)) mR mQ mE mtb mnC mnL mnR mov mnQ mwr mwl mft mth mpl)) C K 3 2 rfl rfl g46 rfl dX3_forgetLeaves_122 ?_
                    refine j_iinc (pc := 123) (v := 3) (lv' := [(8, .int 3), (7, .int 0), (6, .int ((5 : Int32) * v5)), (0, .ref (a 0)), (1, .int x1), (2, .int x2), (3, .int x3), (4, .int v4), (5, .int v5)]) C 0 dX3_forgetLeaves_123 rfl (by decide) (by decide) rfl ?_
                    refine j_goto (pc := 126) (tgt := 95) C dX3_forgetLeaves_126 (by decide) ?_
                    refine j_iload (pc := 95) C 0 dX3_forgetLeaves_95 rfl ?_
                    refine j_iconst (pc := 97) (v := 5) C dX3_forgetLeaves_97 (by decide) ?_
                    refine j_icmp_ge (pc := 98) (tgt := 129) C dX3_forgetLeaves_98 (by decide) (fun h => absurd h (by decide)) (fun _ => ?_)
                    refine j_aload_n (pc := 101) C 3 dX3_forgetLeaves_101 rfl rfl ?_
                    refine j_get (pc := 102) (v := .ref (a 3)) C K inX3_forgetLeaves_X3 0 rfl rfl 4 (by decide) lkX3_forgetLeaves_16 rfl dX3_forgetLeaves_102 ?_
                    refine j_iconst (pc := 105) (v := 5) C dX3_forgetLeaves_105 (by decide) ?_
                    refine j_iload (pc := 106) C 7 dX3_forgetLeaves_106 rfl ?_
                    refine j_imul (pc := 108) C dX3_forgetLeaves_108 ?_
                    refine j_iload (pc := 109) C 0 dX3_forgetLeaves_109 rfl ?_
                    refine j_iadd (pc := 111) C dX3_forgetLeaves_111 ?_
                    refine j_aload_n (pc := 112) C 3 dX3_forgetLeaves_112 rfl rfl ?_
                    refine j_get (pc := 113) (v := .ref (a 3)) C K inX3_forgetLeaves_X3 0 rfl rfl 4 (by decide) lkX3_forgetLeaves_16 rfl dX3_forgetLeaves_113 ?_
                    refine j_iload (pc := 116) C 2 dX3_forgetLeaves_116 rfl ?_
                    refine j_iload (pc := 118) C 0 dX3_forgetLeaves_118 rfl ?_
                    refine j_iadd (pc := 120) C dX3_forgetLeaves_120 ?_
                    obtain ⟨g47, hF⟩ := gd_some hF
                    refine j_iald (pc := 121) C K 3 2 rfl rfl g47 dX3_forgetLeaves_121 ?_
                    obtain ⟨g48, hF⟩ := gd_some hF
                    refine j_iast (pc := 122) (ws' := (mw a k mW mC (upd (upd (upd (upd mL (((5 : Int32) * v4) + 0).toNatClampNeg (mL (((5 : Int32) * v5) + 0).toNatClampNeg)) (((5 : Int32) * v4) + 1).toNatClampNeg ((upd mL (((5 : Int32) * v4) + 0).toNatClampNeg (mL (((5 : Int32) * v5) + 0).toNatClampNeg)) (((5 : Int32) * v5) + 1).toNatClampNeg)) (((5 : Int32) * v4) + 2).toNatClampNeg ((upd (upd mL (((5 : Int32) * v4) + 0).toNatClampNeg (mL (((5 : Int32) * v5) + 0).toNatClampNeg)) (((5 : Int32) * v4) + 1).toNatClampNeg ((upd mL (((5 : Int32) * v4) + 0).toNatClampNeg (mL (((5 : Int32) * v5) + 0).toNatClampNeg)) (((5 : Int32) * v5) + 1).toNatClampNeg)) (((5 : Int32) * v5) + 2).toNatClampNeg)) (((5 : Int32) * v4) + 3).toNatClampNeg ((upd (upd (upd mL (((5 : Int32) * v4) + 0).toNatClampNeg (mL (((5 : Int32) * v5) + 0).toNatClampNeg)) (((5 : Int32) * v4) + 1).toNatClampNeg ((upd mL (((5 : Int32) * v4) + 0).toNatClampNeg (mL (((5 : Int32) * v5) + 0).toNatClampNeg)) (((5 : Int32) * v5) + 1).toNatClampNeg)) (((5 : Int32) * v4) + 2).toNatClampNeg ((upd (upd mL (((5 : Int32) * v4) + 0).toNatClampNeg (mL (((5 : Int32) * v5) + 0).toNatClampNeg)) (((5 : Int32) * v4) + 1).toNatClampNeg ((upd mL (((5 : Int32) * v4) + 0).toNatClampNeg (mL (((5 : Int32) * v5) + 0).toNatClampNeg)) (((5 : Int32) * v5) + 1).toNatClampNeg)) (((5 : Int32) * v5) + 2).toNatClampNeg)) (((5 : Int32) * v5) + 3).toNatClampNeg)) mR mQ mE mtb mnC mnL mnR mov mnQ mwr mwl mft mth mpl)) C K 3 2 rfl rfl g48 rfl dX3_forgetLeaves_122 ?_
                    refine j_iinc (pc := 123) (v := 4) (lv' := [(8, .int 4), (7, .int 0), (6, .int ((5 : Int32) * v5)), (0, .ref (a 0)), (1, .int x1), (2, .int x2), (3, .int x3), (4, .int v4), (5, .int v5)]) C 0 dX3_forgetLeaves_123 rfl (by decide) (by decide) rfl ?_
                    refine j_goto (pc := 126) (tgt := 95) C dX3_forgetLeaves_126 (by decide) ?_
                    refine j_iload (pc := 95) C 0 dX3_forgetLeaves_95 rfl ?_
                    refine j_iconst (pc := 97) (v := 5) C dX3_forgetLeaves_97 (by decide) ?_
                    refine j_icmp_ge (pc := 98) (tgt := 129) C dX3_forgetLeaves_98 (by decide) (fun h => absurd h (by decide)) (fun _ => ?_)
                    refine j_aload_n (pc := 101) C 3 dX3_forgetLeaves_101 rfl rfl ?_
                    refine j_get (pc := 102) (v := .ref (a 3)) C K inX3_forgetLeaves_X3 0 rfl rfl 4 (by decide) lkX3_forgetLeaves_16 rfl dX3_forgetLeaves_102 ?_
                    refine j_iconst (pc := 105) (v := 5) C dX3_forgetLeaves_105 (by decide) ?_
                    refine j_iload (pc := 106) C 7 dX3_forgetLeaves_106 rfl ?_
                    refine j_imul (pc := 108) C dX3_forgetLeaves_108 ?_
                    refine j_iload (pc := 109) C 0 dX3_forgetLeaves_109 rfl ?_
                    refine j_iadd (pc := 111) C dX3_forgetLeaves_111 ?_
                    refine j_aload_n (pc := 112) C 3 dX3_forgetLeaves_112 rfl rfl ?_
                    refine j_get (pc := 113) (v := .ref (a 3)) C K inX3_forgetLeaves_X3 0 rfl rfl 4 (by decide) lkX3_forgetLeaves_16 rfl dX3_forgetLeaves_113 ?_
                    refine j_iload (pc := 116) C 2 dX3_forgetLeaves_116 rfl ?_
                    refine j_iload (pc := 118) C 0 dX3_forgetLeaves_118 rfl ?_
                    refine j_iadd (pc := 120) C dX3_forgetLeaves_120 ?_
                    obtain ⟨g49, hF⟩ := gd_some hF
                    refine j_iald (pc := 121) C K 3 2 rfl rfl g49 dX3_forgetLeaves_121 ?_
                    obtain ⟨g50, hF⟩ := gd_some hF
                    refine j_iast (pc := 122) (ws' := (mw a k mW mC (upd (upd (upd (upd (upd mL (((5 : Int32) * v4) + 0).toNatClampNeg (mL (((5 : Int32) * v5) + 0).toNatClampNeg)) (((5 : Int32) * v4) + 1).toNatClampNeg ((upd mL (((5 : Int32) * v4) + 0).toNatClampNeg (mL (((5 : Int32) * v5) + 0).toNatClampNeg)) (((5 : Int32) * v5) + 1).toNatClampNeg)) (((5 : Int32) * v4) + 2).toNatClampNeg ((upd (upd mL (((5 : Int32) * v4) + 0).toNatClampNeg (mL (((5 : Int32) * v5) + 0).toNatClampNeg)) (((5 : Int32) * v4) + 1).toNatClampNeg ((upd mL (((5 : Int32) * v4) + 0).toNatClampNeg (mL (((5 : Int32) * v5) + 0).toNatClampNeg)) (((5 : Int32) * v5) + 1).toNatClampNeg)) (((5 : Int32) * v5) + 2).toNatClampNeg)) (((5 : Int32) * v4) + 3).toNatClampNeg ((upd (upd (upd mL (((5 : Int32) * v4) + 0).toNatClampNeg (mL (((5 : Int32) * v5) + 0).toNatClampNeg)) (((5 : Int32) * v4) + 1).toNatClampNeg ((upd mL (((5 : Int32) * v4) + 0).toNatClampNeg (mL (((5 : Int32) * v5) + 0).toNatClampNeg)) (((5 : Int32) * v5) + 1).toNatClampNeg)) (((5 : Int32) * v4) + 2).toNatClampNeg ((upd (upd mL (((5 : Int32) * v4) + 0).toNatClampNeg (mL (((5 : Int32) * v5) + 0).toNatClampNeg)) (((5 : Int32) * v4) + 1).toNatClampNeg ((upd mL (((5 : Int32) * v4) + 0).toNatClampNeg (mL (((5 : Int32) * v5) + 0).toNatClampNeg)) (((5 : Int32) * v5) + 1).toNatClampNeg)) (((5 : Int32) * v5) + 2).toNatClampNeg)) (((5 : Int32) * v5) + 3).toNatClampNeg)) (((5 : Int32) * v4) + 4).toNatClampNeg ((upd (upd (upd (upd mL (((5 : Int32) * v4) + 0).toNatClampNeg (mL (((5 : Int32) * v5) + 0).toNatClampNeg)) (((5 : Int32) * v4) + 1).toNatClampNeg ((upd mL (((5 : Int32) * v4) + 0).toNatClampNeg (mL (((5 : Int32) * v5) + 0).toNatClampNeg)) (((5 : Int32) * v5) + 1).toNatClampNeg)) (((5 : Int32) * v4) + 2).toNatClampNeg ((upd (upd mL (((5 : Int32) * v4) + 0).toNatClampNeg (mL (((5 : Int32) * v5) + 0).toNatClampNeg)) (((5 : Int32) * v4) + 1).toNatClampNeg ((upd mL (((5 : Int32) * v4) + 0).toNatClampNeg (mL (((5 : Int32) * v5) + 0).toNatClampNeg)) (((5 : Int32) * v5) + 1).toNatClampNeg)) (((5 : Int32) * v5) + 2).toNatClampNeg)) (((5 : Int32) * v4) + 3).toNatClampNeg ((upd (upd (upd mL (((5 : Int32) * v4) + 0).toNatClampNeg (mL (((5 : Int32) * v5) + 0).toNatClampNeg)) (((5 : Int32) * v4) + 1).toNatClampNeg ((upd mL (((5 : Int32) * v4) + 0).toNatClampNeg (mL (((5 : Int32) * v5) + 0).toNatClampNeg)) (((5 : Int32) * v5) + 1).toNatClampNeg)) (((5 : Int32) * v4) + 2).toNatClampNeg ((upd (upd mL (((5 : Int32) * v4) + 0).toNatClampNeg (mL (((5 : Int32) * v5) + 0).toNatClampNeg)) (((5 : Int32) * v4) + 1).toNatClampNeg ((upd mL (((5 : Int32) * v4) + 0).toNatClampNeg (mL (((5 : Int32) * v5) + 0).toNatClampNeg)) (((5 : Int32) * v5) + 1).toNatClampNeg)) (((5 : Int32) * v5) + 2).toNatClampNeg)) (((5 : Int32) * v5) + 3).toNatClampNeg)) (((5 : Int32) * v5) + 4).toNatClampNeg)) mR mQ mE mtb mnC mnL mnR mov mnQ mwr mwl mft mth mpl)) C K 3 2 rfl rfl g50 rfl dX3_forgetLeaves_122 ?_
                    refine j_iinc (pc := 123) (v := 5) (lv' := [(8, .int 5), (7, .int 0), (6, .int ((5 : Int32) * v5)), (0, .ref (a 0)), (1, .int x1), (2, .int x2), (3, .int x3), (4, .int v4), (5, .int v5)]) C 0 dX3_forgetLeaves_123 rfl (by decide) (by decide) rfl ?_
                    refine j_goto (pc := 126) (tgt := 95) C dX3_forgetLeaves_126 (by decide) ?_
                    refine j_iload (pc := 95) C 0 dX3_forgetLeaves_95 rfl ?_
                    refine j_iconst (pc := 97) (v := 5) C dX3_forgetLeaves_97 (by decide) ?_
                    refine j_icmp_ge (pc := 98) (tgt := 129) C dX3_forgetLeaves_98 (by decide) (fun _ => ?_) (fun h => absurd h (by decide))
                    refine j_iinc (pc := 129) (v := (v4 + 1)) (lv' := [(4, .int (v4 + 1)), (8, .int 5), (7, .int 0), (6, .int ((5 : Int32) * v5)), (0, .ref (a 0)), (1, .int x1), (2, .int x2), (3, .int x3), (5, .int v5)]) C 7 dX3_forgetLeaves_129 rfl rfl (by decide) rfl ?_
                    refine j_iinc (pc := 132) (v := (v5 + 1)) (lv' := [(5, .int (v5 + 1)), (4, .int (v4 + 1)), (8, .int 5), (7, .int 0), (6, .int ((5 : Int32) * v5)), (0, .ref (a 0)), (1, .int x1), (2, .int x2), (3, .int x3)]) C 8 dX3_forgetLeaves_132 rfl rfl (by decide) rfl ?_
                    refine j_goto (pc := 135) (tgt := 6) C dX3_forgetLeaves_135 (by decide) ?_
                    exact j_lv [5, 6, 7, 8, 1, 0] rfl (ih _ _ _ _ hF)
                  · replace hF := ifp hF c40
                    refine j_iconst (pc := 77) (v := 1) C dX3_forgetLeaves_77 (by decide) ?_
                    refine j_goto (pc := 78) (tgt := 82) C dX3_forgetLeaves_78 (by decide) ?_
                    refine j_istore (pc := 82) (lv' := [(7, .int 1), (6, .int ((5 : Int32) * v5)), (0, .ref (a 0)), (1, .int x1), (2, .int x2), (3, .int x3), (4, .int v4), (5, .int v5)]) C dX3_forgetLeaves_82 (by decide) rfl ?_
                    refine j_iload (pc := 84) C 0 dX3_forgetLeaves_84 rfl ?_
                    refine j_if_eq (pc := 86) (tgt := 92) C dX3_forgetLeaves_86 (by decide) (fun h => absurd h (by decide)) (fun _ => ?_)
                    refine j_goto (pc := 89) (tgt := 132) C dX3_forgetLeaves_89 (by decide) ?_
                    refine j_iinc (pc := 132) (v := (v5 + 1)) (lv' := [(5, .int (v5 + 1)), (7, .int 1), (6, .int ((5 : Int32) * v5)), (0, .ref (a 0)), (1, .int x1), (2, .int x2), (3, .int x3), (4, .int v4)]) C 7 dX3_forgetLeaves_132 rfl rfl (by decide) rfl ?_
                    refine j_goto (pc := 135) (tgt := 6) C dX3_forgetLeaves_135 (by decide) ?_
                    exact j_lv [3, 4, 5, 6, 7, 0] rfl (ih _ _ _ _ hF)
  unfold FX3_forgetLeaves at hF
  refine j_iconst (pc := 0) (v := 0) C dX3_forgetLeaves_0 (by decide) ?_
  refine j_istore (pc := 1) (lv' := [(4, .int 0), (0, .ref (a 0)), (1, .int x1), (2, .int x2), (3, .int x3)]) C dX3_forgetLeaves_1 (by decide) rfl ?_
  refine j_iconst (pc := 3) (v := 0) C dX3_forgetLeaves_3 (by decide) ?_
  refine j_istore (pc := 4) (lv' := [(5, .int 0), (4, .int 0), (0, .ref (a 0)), (1, .int x1), (2, .int x2), (3, .int x3)]) C dX3_forgetLeaves_4 (by decide) rfl ?_
  exact j_lv [2, 3, 4, 5, 1, 0] rfl (K6 _ _ _ _ _ hF)
theorem lkX3_forgetContexts_42 : Cond.fieldLink RX3 42 (TX3 3).1 (TX3 3).2.1 (TX3 3).2.2.1 ∈ wsX3_forgetContexts := by decide +kernel
theorem lkX3_forgetContexts_13 : Cond.fieldLink RX3 13 (TX3 2).1 (TX3 2).2.1 (TX3 2).2.2.1 ∈ wsX3_forgetContexts := by decide +kernel
theorem inX3_forgetContexts_X3 : ∀ w ∈ u_ws RX3 TX3 17, w ∈ wsX3_forgetContexts := by decide +kernel
theorem hdyX3_forgetContexts : yX3_forgetContexts.cls = RX3 ∧ yX3_forgetContexts.cls ≠ "java/lang/invoke/MethodHandle" ∧ yX3_forgetContexts.cls ≠ "java/lang/invoke/VarHandle" ∧ (parseMethodDescriptor yX3_forgetContexts.desc).map (fun d => d.parameters.length) = some 2 := by decide +kernel
set_option maxHeartbeats 4000000 in
set_option maxRecDepth 100000 in
theorem ctX3_forgetContexts (l : Launch) (D : va_G) (a : Nat → Nat) (k : Nat → ClassId) (mW : Nat → Int32) (mC : Nat → Int32) (mL : Nat → Int32) (mR : Nat → Int32) (mQ : Nat → Int32) (mE : Nat → Int32) (mtb : Int32) (mnC : Int32) (mnL : Int32) (mnR : Int32) (mov : Int32) (mnQ : Int32) (mwr : Int32) (mwl : Int32) (mft : Int32) (mth : Int32) (mpl : Int32) (x1 x2 : Int32) (omC : Nat → Int32) (omnC : Int32) (hF : FX3_forgetContexts x1 x2 mC mnC = some (omC, omnC)) : jv l yX3_forgetContexts wsX3_forgetContexts { frames := 0, cells := 0, slots := 0, locals := 0 } D (mt k) [.ref (a 0), .int x1, .int x2] (mw a k mW mC mL mR mQ mE mtb mnC mnL mnR mov mnQ mwr mwl mft mth mpl) (mw a k mW omC mL mR mQ mE mtb omnC mnL mnR mov mnQ mwr mwl mft mth mpl) := by
  refine j_mv (cc := cX3_forgetContexts) (maxL := 6) (own := RX3) (by decide) rfl rfl (Nat.le_of_ble_eq_true rfl) ?_
  intro p e s m args below meth c A C K hr hlk
  have K5 : ∀ (n : Nat) (mC : Nat → Int32) (mnC : Int32) (v3 v4 : Int32), FX3_forgetContexts_5 x1 x2 n mC mnC v3 v4 = some (omC, omnC) → jw p l e ({ frames := 0, cells := 0, slots := 0, locals := 0 } : Room) s m args below meth c 6 D A 0 0 (jqv below D (mt k) args s A (mw a k mW omC mL mR mQ mE mtb omnC mnL mnR mov mnQ mwr mwl mft mth mpl)) (mw a k mW mC mL mR mQ mE mtb mnC mnL mnR mov mnQ mwr mwl mft mth mpl) [(0, .ref (a 0)), (1, .int x1), (2, .int x2), (3, .int v3), (4, .int v4)] 5 [] := by
    intro n
    induction n with
    | zero =>
      intro mC mnC v3 v4 hF
      rw [FX3_forgetContexts_5] at hF
      cases hF
    | succ n ih =>
      intro mC mnC v3 v4 hF
      rw [FX3_forgetContexts_5] at hF
      refine j_iload (pc := 5) C 4 dX3_forgetContexts_5 rfl ?_
      refine j_aload_n (pc := 7) C 0 dX3_forgetContexts_7 rfl rfl ?_
      refine j_get (pc := 8) (v := .int mnC) C K inX3_forgetContexts_X3 0 rfl rfl 3 (by decide) lkX3_forgetContexts_42 rfl dX3_forgetContexts_8 ?_
      refine j_icmp_ge (pc := 11) (tgt := 81) C dX3_forgetContexts_11 (by decide) (fun c1 => ?_) (fun c1 => ?_)
      · replace hF := ifp hF c1
        refine j_aload_n (pc := 81) C 0 dX3_forgetContexts_81 rfl rfl ?_
        refine j_iload_n (pc := 82) C 3 dX3_forgetContexts_82 rfl rfl ?_
        refine j_put (pc := 83) (ws' := (mw a k mW mC mL mR mQ mE mtb v3 mnL mnR mov mnQ mwr mwl mft mth mpl)) C K inX3_forgetContexts_X3 tyX3 tyX3_ok nmX3 0 rfl rfl 3 (by decide) lkX3_forgetContexts_42 rfl (tyX3_ok 3 (by decide)) rfl rfl (Nat.le_of_ble_eq_true rfl) rfl dX3_forgetContexts_83 ?_
        cases hF
        exact j_vret (pc := 86) C K hr hlk dX3_forgetContexts_86
      · replace hF := ifn hF c1
        refine j_iload_n (pc := 14) C 2 dX3_forgetContexts_14 rfl rfl ?_
        refine j_if_ne (pc := 15) (tgt := 75) C dX3_forgetContexts_15 (by decide) (fun c2 => ?_) (fun c2 => ?_)
        · replace hF := ifn hF c2
          refine j_iinc (pc := 75) (v := (v4 + 1)) (lv' := [(4, .int (v4 + 1)), (0, .ref (a 0)), (1, .int x1), (2, .int x2), (3, .int v3)]) C 4 dX3_forgetContexts_75 rfl rfl (by decide) rfl ?_
          refine j_goto (pc := 78) (tgt := 5) C dX3_forgetContexts_78 (by decide) ?_
          exact j_lv [1, 2, 3, 4, 0] rfl (ih _ _ _ _ hF)
        · replace hF := ifp hF c2
          refine j_aload_n (pc := 18) C 0 dX3_forgetContexts_18 rfl rfl ?_
          refine j_get (pc := 19) (v := .ref (a 2)) C K inX3_forgetContexts_X3 0 rfl rfl 2 (by decide) lkX3_forgetContexts_13 rfl dX3_forgetContexts_19 ?_
          refine j_iconst (pc := 22) (v := 4) C dX3_forgetContexts_22 (by decide) ?_
          refine j_iload (pc := 23) C 4 dX3_forgetContexts_23 rfl ?_
          refine j_imul (pc := 25) C dX3_forgetContexts_25 ?_
          obtain ⟨g3, hF⟩ := gd_some hF
          refine j_iald (pc := 26) C K 2 1 rfl rfl g3 dX3_forgetContexts_26 ?_
          refine j_iload_n (pc := 27) C 1 dX3_forgetContexts_27 rfl rfl ?_
          refine j_icmp_ne (pc := 28) (tgt := 34) C dX3_forgetContexts_28 (by decide) (fun c4 => ?_) (fun c4 => ?_)
          · replace hF := ifn hF c4
            refine j_iconst (pc := 34) (v := 0) C dX3_forgetContexts_34 (by decide) ?_
            refine j_istore (pc := 35) (lv' := [(5, .int 0), (0, .ref (a 0)), (1, .int x1), (2, .int x2), (3, .int v3), (4, .int v4)]) C dX3_forgetContexts_35 (by decide) rfl ?_
            refine j_iload (pc := 37) C 0 dX3_forgetContexts_37 rfl ?_
            refine j_iconst (pc := 39) (v := 4) C dX3_forgetContexts_39 (by decide) ?_
            refine j_icmp_ge (pc := 40) (tgt := 72) C dX3_forgetContexts_40 (by decide) (fun h => absurd h (by decide)) (fun _ => ?_)
            refine j_aload_n (pc := 43) C 1 dX3_forgetContexts_43 rfl rfl ?_
            refine j_get (pc := 44) (v := .ref (a 2)) C K inX3_forgetContexts_X3 0 rfl rfl 2 (by decide) lkX3_forgetContexts_13 rfl dX3_forgetContexts_44 ?_
            refine j_iconst (pc := 47) (v := 4) C dX3_forgetContexts_47 (by decide) ?_
            refine j_iload_n (pc := 48) C 4 dX3_forgetContexts_48 rfl rfl ?_
            refine j_imul (pc := 49) C dX3_forgetContexts_49 ?_
            refine j_iload (pc := 50) C 0 dX3_forgetContexts_50 rfl ?_
            refine j_iadd (pc := 52) C dX3_forgetContexts_52 ?_
            refine j_aload_n (pc := 53) C 1 dX3_forgetContexts_53 rfl rfl ?_
            refine j_get (pc := 54) (v := .ref (a 2)) C K inX3_forgetContexts_X3 0 rfl rfl 2 (by decide) lkX3_forgetContexts_13 rfl dX3_forgetContexts_54 ?_
            refine j_iconst (pc := 57) (v := 4) C dX3_forgetContexts_57 (by decide) ?_
            refine j_iload (pc := 58) C 5 dX3_forgetContexts_58 rfl ?_
            refine j_imul (pc := 60) C dX3_forgetContexts_60 ?_
            refine j_iload (pc := 61) C 0 dX3_forgetContexts_61 rfl ?_
            refine j_iadd (pc := 63) C dX3_forgetContexts_63 ?_
            obtain ⟨g5, hF⟩ := gd_some hF
            refine j_iald (pc := 64) C K 2 1 rfl rfl g5 dX3_forgetContexts_64 ?_
            obtain ⟨g6, hF⟩ := gd_some hF
            refine j_iast (pc := 65) (ws' := (mw a k mW (upd mC (((4 : Int32) * v3) + 0).toNatClampNeg (mC (((4 : Int32) * v4) + 0).toNatClampNeg)) mL mR mQ mE mtb mnC mnL mnR mov mnQ mwr mwl mft mth mpl)) C K 2 1 rfl rfl g6 rfl dX3_forgetContexts_65 ?_
            refine j_iinc (pc := 66) (v := 1) (lv' := [(5, .int 1), (0, .ref (a 0)), (1, .int x1), (2, .int x2), (3, .int v3), (4, .int v4)]) C 0 dX3_forgetContexts_66 rfl (by decide) (by decide) rfl ?_
            refine j_goto (pc := 69) (tgt := 37) C dX3_forgetContexts_69 (by decide) ?_
            refine j_iload (pc := 37) C 0 dX3_forgetContexts_37 rfl ?_
            refine j_iconst (pc := 39) (v := 4) C dX3_forgetContexts_39 (by decide) ?_
            refine j_icmp_ge (pc := 40) (tgt := 72) C dX3_forgetContexts_40 (by decide) (fun h => absurd h (by decide)) (fun _ => ?_)
            refine j_aload_n (pc := 43) C 1 dX3_forgetContexts_43 rfl rfl ?_
            refine j_get (pc := 44) (v := .ref (a 2)) C K inX3_forgetContexts_X3 0 rfl rfl 2 (by decide) lkX3_forgetContexts_13 rfl dX3_forgetContexts_44 ?_
            refine j_iconst (pc := 47) (v := 4) C dX3_forgetContexts_47 (by decide) ?_
            refine j_iload_n (pc := 48) C 4 dX3_forgetContexts_48 rfl rfl ?_
            refine j_imul (pc := 49) C dX3_forgetContexts_49 ?_
            refine j_iload (pc := 50) C 0 dX3_forgetContexts_50 rfl ?_
            refine j_iadd (pc := 52) C dX3_forgetContexts_52 ?_
            refine j_aload_n (pc := 53) C 1 dX3_forgetContexts_53 rfl rfl ?_
            refine j_get (pc := 54) (v := .ref (a 2)) C K inX3_forgetContexts_X3 0 rfl rfl 2 (by decide) lkX3_forgetContexts_13 rfl dX3_forgetContexts_54 ?_
            refine j_iconst (pc := 57) (v := 4) C dX3_forgetContexts_57 (by decide) ?_
            refine j_iload (pc := 58) C 5 dX3_forgetContexts_58 rfl ?_
            refine j_imul (pc := 60) C dX3_forgetContexts_60 ?_
            refine j_iload (pc := 61) C 0 dX3_forgetContexts_61 rfl ?_
            refine j_iadd (pc := 63) C dX3_forgetContexts_63 ?_
            obtain ⟨g7, hF⟩ := gd_some hF
            refine j_iald (pc := 64) C K 2 1 rfl rfl g7 dX3_forgetContexts_64 ?_
            obtain ⟨g8, hF⟩ := gd_some hF
            refine j_iast (pc := 65) (ws' := (mw a k mW (upd (upd mC (((4 : Int32) * v3) + 0).toNatClampNeg (mC (((4 : Int32) * v4) + 0).toNatClampNeg)) (((4 : Int32) * v3) + 1).toNatClampNeg ((upd mC (((4 : Int32) * v3) + 0).toNatClampNeg (mC (((4 : Int32) * v4) + 0).toNatClampNeg)) (((4 : Int32) * v4) + 1).toNatClampNeg)) mL mR mQ mE mtb mnC mnL mnR mov mnQ mwr mwl mft mth mpl)) C K 2 1 rfl rfl g8 rfl dX3_forgetContexts_65 ?_
            refine j_iinc (pc := 66) (v := 2) (lv' := [(5, .int 2), (0, .ref (a 0)), (1, .int x1), (2, .int x2), (3, .int v3), (4, .int v4)]) C 0 dX3_forgetContexts_66 rfl (by decide) (by decide) rfl ?_
            refine j_goto (pc := 69) (tgt := 37) C dX3_forgetContexts_69 (by decide) ?_
            refine j_iload (pc := 37) C 0 dX3_forgetContexts_37 rfl ?_
            refine j_iconst (pc := 39) (v := 4) C dX3_forgetContexts_39 (by decide) ?_
            refine j_icmp_ge (pc := 40) (tgt := 72) C dX3_forgetContexts_40 (by decide) (fun h => absurd h (by decide)) (fun _ => ?_)
            refine j_aload_n (pc := 43) C 1 dX3_forgetContexts_43 rfl rfl ?_
            refine j_get (pc := 44) (v := .ref (a 2)) C K inX3_forgetContexts_X3 0 rfl rfl 2 (by decide) lkX3_forgetContexts_13 rfl dX3_forgetContexts_44 ?_
            refine j_iconst (pc := 47) (v := 4) C dX3_forgetContexts_47 (by decide) ?_
            refine j_iload_n (pc := 48) C 4 dX3_forgetContexts_48 rfl rfl ?_
            refine j_imul (pc := 49) C dX3_forgetContexts_49 ?_
            refine j_iload (pc := 50) C 0 dX3_forgetContexts_50 rfl ?_
            refine j_iadd (pc := 52) C dX3_forgetContexts_52 ?_
            refine j_aload_n (pc := 53) C 1 dX3_forgetContexts_53 rfl rfl ?_
            refine j_get (pc := 54) (v := .ref (a 2)) C K inX3_forgetContexts_X3 0 rfl rfl 2 (by decide) lkX3_forgetContexts_13 rfl dX3_forgetContexts_54 ?_
            refine j_iconst (pc := 57) (v := 4) C dX3_forgetContexts_57 (by decide) ?_
            refine j_iload (pc := 58) C 5 dX3_forgetContexts_58 rfl ?_
            refine j_imul (pc := 60) C dX3_forgetContexts_60 ?_
            refine j_iload (pc := 61) C 0 dX3_forgetContexts_61 rfl ?_
            refine j_iadd (pc := 63) C dX3_forgetContexts_63 ?_
            obtain ⟨g9, hF⟩ := gd_some hF
            refine j_iald (pc := 64) C K 2 1 rfl rfl g9 dX3_forgetContexts_64 ?_
            obtain ⟨g10, hF⟩ := gd_some hF
            refine j_iast (pc := 65) (ws' := (mw a k mW (upd (upd (upd mC (((4 : Int32) * v3) + 0).toNatClampNeg (mC (((4 : Int32) * v4) + 0).toNatClampNeg)) (((4 : Int32) * v3) + 1).toNatClampNeg ((upd mC (((4 : Int32) * v3) + 0).toNatClampNeg (mC (((4 : Int32) * v4) + 0).toNatClampNeg)) (((4 : Int32) * v4) + 1).toNatClampNeg)) (((4 : Int32) * v3) + 2).toNatClampNeg ((upd (upd mC (((4 : Int32) * v3) + 0).toNatClampNeg (mC (((4 : Int32) * v4) + 0).toNatClampNeg)) (((4 : Int32) * v3) + 1).toNatClampNeg ((upd mC (((4 : Int32) * v3) + 0).toNatClampNeg (mC (((4 : Int32) * v4) + 0).toNatClampNeg)) (((4 : Int32) * v4) + 1).toNatClampNeg)) (((4 : Int32) * v4) + 2).toNatClampNeg)) mL mR mQ mE mtb mnC mnL mnR mov mnQ mwr mwl mft mth mpl)) C K 2 1 rfl rfl g10 rfl dX3_forgetContexts_65 ?_
            refine j_iinc (pc := 66) (v := 3) (lv' := [(5, .int 3), (0, .ref (a 0)), (1, .int x1), (2, .int x2), (3, .int v3), (4, .int v4)]) C 0 dX3_forgetContexts_66 rfl (by decide) (by decide) rfl ?_
            refine j_goto (pc := 69) (tgt := 37) C dX3_forgetContexts_69 (by decide) ?_
            refine j_iload (pc := 37) C 0 dX3_forgetContexts_37 rfl ?_
            refine j_iconst (pc := 39) (v := 4) C dX3_forgetContexts_39 (by decide) ?_
            refine j_icmp_ge (pc := 40) (tgt := 72) C dX3_forgetContexts_40 (by decide) (fun h => absurd h (by decide)) (fun _ => ?_)
            refine j_aload_n (pc := 43) C 1 dX3_forgetContexts_43 rfl rfl ?_
            refine j_get (pc := 44) (v := .ref (a 2)) C K inX3_forgetContexts_X3 0 rfl rfl 2 (by decide) lkX3_forgetContexts_13 rfl dX3_forgetContexts_44 ?_
            refine j_iconst (pc := 47) (v := 4) C dX3_forgetContexts_47 (by decide) ?_
            refine j_iload_n (pc := 48) C 4 dX3_forgetContexts_48 rfl rfl ?_
            refine j_imul (pc := 49) C dX3_forgetContexts_49 ?_
            refine j_iload (pc := 50) C 0 dX3_forgetContexts_50 rfl ?_
            refine j_iadd (pc := 52) C dX3_forgetContexts_52 ?_
            refine j_aload_n (pc := 53) C 1 dX3_forgetContexts_53 rfl rfl ?_
            refine j_get (pc := 54) (v := .ref (a 2)) C K inX3_forgetContexts_X3 0 rfl rfl 2 (by decide) lkX3_forgetContexts_13 rfl dX3_forgetContexts_54 ?_
            refine j_iconst (pc := 57) (v := 4) C dX3_forgetContexts_57 (by decide) ?_
            refine j_iload (pc := 58) C 5 dX3_forgetContexts_58 rfl ?_
            refine j_imul (pc := 60) C dX3_forgetContexts_60 ?_
            refine j_iload (pc := 61) C 0 dX3_forgetContexts_61 rfl ?_
            refine j_iadd (pc := 63) C dX3_forgetContexts_63 ?_
            obtain ⟨g11, hF⟩ := gd_some hF
            refine j_iald (pc := 64) C K 2 1 rfl rfl g11 dX3_forgetContexts_64 ?_
            obtain ⟨g12, hF⟩ := gd_some hF
            refine j_iast (pc := 65) (ws' := (mw a k mW (upd (upd (upd (upd mC (((4 : Int32) * v3) + 0).toNatClampNeg (mC (((4 : Int32) * v4) + 0).toNatClampNeg)) (((4 : Int32) * v3) + 1).toNatClampNeg ((upd mC (((4 : Int32) * v3) + 0).toNatClampNeg (mC (((4 : Int32) * v4) + 0).toNatClampNeg)) (((4 : Int32) * v4) + 1).toNatClampNeg)) (((4 : Int32) * v3) + 2).toNatClampNeg ((upd (upd mC (((4 : Int32) * v3) + 0).toNatClampNeg (mC (((4 : Int32) * v4) + 0).toNatClampNeg)) (((4 : Int32) * v3) + 1).toNatClampNeg ((upd mC (((4 : Int32) * v3) + 0).toNatClampNeg (mC (((4 : Int32) * v4) + 0).toNatClampNeg)) (((4 : Int32) * v4) + 1).toNatClampNeg)) (((4 : Int32) * v4) + 2).toNatClampNeg)) (((4 : Int32) * v3) + 3).toNatClampNeg ((upd (upd (upd mC (((4 : Int32) * v3) + 0).toNatClampNeg (mC (((4 : Int32) * v4) + 0).toNatClampNeg)) (((4 : Int32) * v3) + 1).toNatClampNeg ((upd mC (((4 : Int32) * v3) + 0).toNatClampNeg (mC (((4 : Int32) * v4) + 0).toNatClampNeg)) (((4 : Int32) * v4) + 1).toNatClampNeg)) (((4 : Int32) * v3) + 2).toNatClampNeg ((upd (upd mC (((4 : Int32) * v3) + 0).toNatClampNeg (mC (((4 : Int32) * v4) + 0).toNatClampNeg)) (((4 : Int32) * v3) + 1).toNatClampNeg ((upd mC (((4 : Int32) * v3) + 0).toNatClampNeg (mC (((4 : Int32) * v4) + 0).toNatClampNeg)) (((4 : Int32) * v4) + 1).toNatClampNeg)) (((4 : Int32) * v4) + 2).toNatClampNeg)) (((4 : Int32) * v4) + 3).toNatClampNeg)) mL mR mQ mE mtb mnC mnL mnR mov mnQ mwr mwl mft mth mpl)) C K 2 1 rfl rfl g12 rfl dX3_forgetContexts_65 ?_
            refine j_iinc (pc := 66) (v := 4) (lv' := [(5, .int 4), (0, .ref (a 0)), (1, .int x1), (2, .int x2), (3, .int v3), (4, .int v4)]) C 0 dX3_forgetContexts_66 rfl (by decide) (by decide) rfl ?_
            refine j_goto (pc := 69) (tgt := 37) C dX3_forgetContexts_69 (by decide) ?_
            refine j_iload (pc := 37) C 0 dX3_forgetContexts_37 rfl ?_
            refine j_iconst (pc := 39) (v := 4) C dX3_forgetContexts_39 (by decide) ?_
            refine j_icmp_ge (pc := 40) (tgt := 72) C dX3_forgetContexts_40 (by decide) (fun _ => ?_) (fun h => absurd h (by decide))
            refine j_iinc (pc := 72) (v := (v3 + 1)) (lv' := [(3, .int (v3 + 1)), (5, .int 4), (0, .ref (a 0)), (1, .int x1), (2, .int x2), (4, .int v4)]) C 4 dX3_forgetContexts_72 rfl rfl (by decide) rfl ?_
            refine j_iinc (pc := 75) (v := (v4 + 1)) (lv' := [(4, .int (v4 + 1)), (3, .int (v3 + 1)), (5, .int 4), (0, .ref (a 0)), (1, .int x1), (2, .int x2)]) C 5 dX3_forgetContexts_75 rfl rfl (by decide) rfl ?_
            refine j_goto (pc := 78) (tgt := 5) C dX3_forgetContexts_78 (by decide) ?_
            exact j_lv [3, 4, 5, 1, 0] rfl (ih _ _ _ _ hF)
          · replace hF := ifp hF c4
            refine j_goto (pc := 31) (tgt := 75) C dX3_forgetContexts_31 (by decide) ?_
            refine j_iinc (pc := 75) (v := (v4 + 1)) (lv' := [(4, .int (v4 + 1)), (0, .ref (a 0)), (1, .int x1), (2, .int x2), (3, .int v3)]) C 4 dX3_forgetContexts_75 rfl rfl (by decide) rfl ?_
            refine j_goto (pc := 78) (tgt := 5) C dX3_forgetContexts_78 (by decide) ?_
            exact j_lv [1, 2, 3, 4, 0] rfl (ih _ _ _ _ hF)
  unfold FX3_forgetContexts at hF
  refine j_iconst (pc := 0) (v := 0) C dX3_forgetContexts_0 (by decide) ?_
  refine j_istore_n (pc := 1) (lv' := [(3, .int 0), (0, .ref (a 0)), (1, .int x1), (2, .int x2)]) C dX3_forgetContexts_1 rfl (by decide) rfl ?_
  refine j_iconst (pc := 2) (v := 0) C dX3_forgetContexts_2 (by decide) ?_
  refine j_istore (pc := 3) (lv' := [(4, .int 0), (3, .int 0), (0, .ref (a 0)), (1, .int x1), (2, .int x2)]) C dX3_forgetContexts_3 (by decide) rfl ?_
  exact j_lv [2, 3, 4, 1, 0] rfl (K5 _ _ _ _ _ hF)
theorem lkX3_does_9 : Cond.fieldLink RX3 9 (TX3 0).1 (TX3 0).2.1 (TX3 0).2.2.1 ∈ wsX3_does := by decide +kernel
theorem inX3_does_X3 : ∀ w ∈ u_ws RX3 TX3 17, w ∈ wsX3_does := by decide +kernel
theorem hdyX3_does : yX3_does.cls = RX3 ∧ yX3_does.cls ≠ "java/lang/invoke/MethodHandle" ∧ yX3_does.cls ≠ "java/lang/invoke/VarHandle" ∧ (parseMethodDescriptor yX3_does.desc).map (fun d => d.parameters.length) = some 3 := by decide +kernel
set_option maxHeartbeats 4000000 in
set_option maxRecDepth 100000 in
theorem ctX3_does (l : Launch) (D : va_G) (a : Nat → Nat) (k : Nat → ClassId) (mW : Nat → Int32) (mC : Nat → Int32) (mL : Nat → Int32) (mR : Nat → Int32) (mQ : Nat → Int32) (mE : Nat → Int32) (mtb : Int32) (mnC : Int32) (mnL : Int32) (mnR : Int32) (mov : Int32) (mnQ : Int32) (mwr : Int32) (mwl : Int32) (mft : Int32) (mth : Int32) (mpl : Int32) (x1 x2 x3 : Int32) (omW : Nat → Int32) (omC : Nat → Int32) (omL : Nat → Int32) (omnC : Int32) (omnL : Int32) (hF : FX3_does x1 x2 x3 mW mC mL mnC mnL = some (omW, omC, omL, omnC, omnL)) : jv l yX3_does wsX3_does { frames := 1, cells := 0, slots := 0, locals := 28 } D (mt k) [.ref (a 0), .int x1, .int x2, .int x3] (mw a k mW mC mL mR mQ mE mtb mnC mnL mnR mov mnQ mwr mwl mft mth mpl) (mw a k omW omC omL mR mQ mE mtb omnC omnL mnR mov mnQ mwr mwl mft mth mpl) := by
  refine j_mv (cc := cX3_does) (maxL := 4) (own := RX3) (by decide) rfl rfl (Nat.le_of_ble_eq_true rfl) ?_
  intro p e s m args below meth c A C K hr hlk
  unfold FX3_does at hF
  refine j_iload_n (pc := 0) C 1 dX3_does_0 rfl rfl ?_
  by_cases c1 : x1 = 0
  · replace hF := ifp hF c1
    refine j_tin (pc := 1) (tgt := 36) (off := 35) C dX3_does_1 (by rw [c1]; decide) (by rw [c1]; decide) (by rw [c1]; rfl) (by decide) ?_
    refine j_aload_n (pc := 36) C 0 dX3_does_36 rfl rfl ?_
    refine j_iconst (pc := 37) (v := (-1)) C dX3_does_37 (by decide) ?_
    refine j_iconst (pc := 38) (v := 0) C dX3_does_38 (by decide) ?_
    refine j_iconst (pc := 39) (v := 0) C dX3_does_39 (by decide) ?_
    obtain ⟨q2mL, q2mnL, hq2, hF⟩ := bd2_some hF
    refine j_callVv (pc := 40) (As := [.int (-1), .int 0, .int 0]) (rest := []) (ws' := (mw a k mW mC q2mL mR mQ mE mtb mnC q2mnL mnR mov mnQ mwr mwl mft mth mpl)) C K (ci := 3) (q0 := 0) rfl rfl rfl (ctX3_forgetLeaves l D a k _ _ _ _ _ _ _ _ _ _ _ _ _ _ _ _ _ _ _ _ _ _ hq2) gX3_does_X3_forgetLeaves rfl rfl rfl hdyX3_forgetLeaves ⟨Nat.le_of_ble_eq_true rfl, Nat.le_of_ble_eq_true rfl⟩ (List.range 7) (jrange _) (by decide) (jspF rfl) [0, 1, 2, 3, 4, 5] rfl rfl (Nat.le_of_ble_eq_true rfl) dX3_does_40 ⟨Nat.zero_le _, Nat.zero_le _⟩ ?_
    refine j_goto (pc := 43) (tgt := 106) C dX3_does_43 (by decide) ?_
    cases hF
    exact j_vret (pc := 106) C K hr hlk dX3_does_106
  · replace hF := ifn hF c1
    by_cases c3 : x1 = 1
    · replace hF := ifp hF c3
      refine j_tin (pc := 1) (tgt := 46) (off := 45) C dX3_does_1 (by rw [c3]; decide) (by rw [c3]; decide) (by rw [c3]; rfl) (by decide) ?_
      refine j_iload_n (pc := 46) C 2 dX3_does_46 rfl rfl ?_
      refine j_if_lt (pc := 47) (tgt := 106) C dX3_does_47 (by decide) (fun c4 => ?_) (fun c4 => ?_)
      · replace hF := ifp hF c4
        cases hF
        exact j_vret (pc := 106) C K hr hlk dX3_does_106
      · replace hF := ifn hF c4
        refine j_aload_n (pc := 50) C 0 dX3_does_50 rfl rfl ?_
        refine j_iload_n (pc := 51) C 2 dX3_does_51 rfl rfl ?_
        refine j_iconst (pc := 52) (v := 0) C dX3_does_52 (by decide) ?_
        refine j_iconst (pc := 53) (v := 0) C dX3_does_53 (by decide) ?_
        obtain ⟨q5mL, q5mnL, hq5, hF⟩ := bd2_some hF
        refine j_callVv (pc := 54) (As := [.int x2, .int 0, .int 0]) (rest := []) (ws' := (mw a k mW mC q5mL mR mQ mE mtb mnC q5mnL mnR mov mnQ mwr mwl mft mth mpl)) C K (ci := 3) (q0 := 0) rfl rfl rfl (ctX3_forgetLeaves l D a k _ _ _ _ _ _ _ _ _ _ _ _ _ _ _ _ _ _ _ _ _ _ hq5) gX3_does_X3_forgetLeaves rfl rfl rfl hdyX3_forgetLeaves ⟨Nat.le_of_ble_eq_true rfl, Nat.le_of_ble_eq_true rfl⟩ (List.range 7) (jrange _) (by decide) (jspF rfl) [0, 1, 2, 3, 4, 5] rfl rfl (Nat.le_of_ble_eq_true rfl) dX3_does_54 ⟨Nat.zero_le _, Nat.zero_le _⟩ ?_
        refine j_goto (pc := 57) (tgt := 106) C dX3_does_57 (by decide) ?_
        cases hF
        exact j_vret (pc := 106) C K hr hlk dX3_does_106
    · replace hF := ifn hF c3
      by_cases c6 : x1 = 2
      · replace hF := ifp hF c6
        refine j_tin (pc := 1) (tgt := 60) (off := 59) C dX3_does_1 (by rw [c6]; decide) (by rw [c6]; decide) (by rw [c6]; rfl) (by decide) ?_
        refine j_iload_n (pc := 60) C 2 dX3_does_60 rfl rfl ?_
        refine j_if_lt (pc := 61) (tgt := 106) C dX3_does_61 (by decide) (fun c7 => ?_) (fun c7 => ?_)
        · replace hF := ifp hF c7
          cases hF
          exact j_vret (pc := 106) C K hr hlk dX3_does_106
        · replace hF := ifn hF c7
          refine j_aload_n (pc := 64) C 0 dX3_does_64 rfl rfl ?_
          refine j_iload_n (pc := 65) C 2 dX3_does_65 rfl rfl ?_
          refine j_iload_n (pc := 66) C 3 dX3_does_66 rfl rfl ?_
          refine j_iconst (pc := 67) (v := 1) C dX3_does_67 (by decide) ?_
          obtain ⟨q8mL, q8mnL, hq8, hF⟩ := bd2_some hF
          refine j_callVv (pc := 68) (As := [.int x2, .int x3, .int 1]) (rest := []) (ws' := (mw a k mW mC q8mL mR mQ mE mtb mnC q8mnL mnR mov mnQ mwr mwl mft mth mpl)) C K (ci := 3) (q0 := 0) rfl rfl rfl (ctX3_forgetLeaves l D a k _ _ _ _ _ _ _ _ _ _ _ _ _ _ _ _ _ _ _ _ _ _ hq8) gX3_does_X3_forgetLeaves rfl rfl rfl hdyX3_forgetLeaves ⟨Nat.le_of_ble_eq_true rfl, Nat.le_of_ble_eq_true rfl⟩ (List.range 7) (jrange _) (by decide) (jspF rfl) [0, 1, 2, 3, 4, 5] rfl rfl (Nat.le_of_ble_eq_true rfl) dX3_does_68 ⟨Nat.zero_le _, Nat.zero_le _⟩ ?_
          refine j_goto (pc := 71) (tgt := 106) C dX3_does_71 (by decide) ?_
          cases hF
          exact j_vret (pc := 106) C K hr hlk dX3_does_106
      · replace hF := ifn hF c6
        by_cases c9 : x1 = 3
        · replace hF := ifp hF c9
          refine j_tin (pc := 1) (tgt := 74) (off := 73) C dX3_does_1 (by rw [c9]; decide) (by rw [c9]; decide) (by rw [c9]; rfl) (by decide) ?_
          refine j_aload_n (pc := 74) C 0 dX3_does_74 rfl rfl ?_
          refine j_iload_n (pc := 75) C 2 dX3_does_75 rfl rfl ?_
          refine j_iconst (pc := 76) (v := 0) C dX3_does_76 (by decide) ?_
          obtain ⟨q10mC, q10mnC, hq10, hF⟩ := bd2_some hF
          refine j_callVv (pc := 77) (As := [.int x2, .int 0]) (rest := []) (ws' := (mw a k mW q10mC mL mR mQ mE mtb q10mnC mnL mnR mov mnQ mwr mwl mft mth mpl)) C K (ci := 3) (q0 := 0) rfl rfl rfl (ctX3_forgetContexts l D a k _ _ _ _ _ _ _ _ _ _ _ _ _ _ _ _ _ _ _ _ _ hq10) gX3_does_X3_forgetContexts rfl rfl rfl hdyX3_forgetContexts ⟨Nat.le_of_ble_eq_true rfl, Nat.le_of_ble_eq_true rfl⟩ (List.range 7) (jrange _) (by decide) (jspF rfl) [0, 1, 2, 3, 4, 5] rfl rfl (Nat.le_of_ble_eq_true rfl) dX3_does_77 ⟨Nat.zero_le _, Nat.zero_le _⟩ ?_
          refine j_goto (pc := 80) (tgt := 106) C dX3_does_80 (by decide) ?_
          cases hF
          exact j_vret (pc := 106) C K hr hlk dX3_does_106
        · replace hF := ifn hF c9
          by_cases c11 : x1 = 4
          · replace hF := ifp hF c11
            refine j_tin (pc := 1) (tgt := 83) (off := 82) C dX3_does_1 (by rw [c11]; decide) (by rw [c11]; decide) (by rw [c11]; rfl) (by decide) ?_
            refine j_aload_n (pc := 83) C 0 dX3_does_83 rfl rfl ?_
            refine j_iconst (pc := 84) (v := 0) C dX3_does_84 (by decide) ?_
            refine j_iconst (pc := 85) (v := 1) C dX3_does_85 (by decide) ?_
            obtain ⟨q12mC, q12mnC, hq12, hF⟩ := bd2_some hF
            refine j_callVv (pc := 86) (As := [.int 0, .int 1]) (rest := []) (ws' := (mw a k mW q12mC mL mR mQ mE mtb q12mnC mnL mnR mov mnQ mwr mwl mft mth mpl)) C K (ci := 3) (q0 := 0) rfl rfl rfl (ctX3_forgetContexts l D a k _ _ _ _ _ _ _ _ _ _ _ _ _ _ _ _ _ _ _ _ _ hq12) gX3_does_X3_forgetContexts rfl rfl rfl hdyX3_forgetContexts ⟨Nat.le_of_ble_eq_true rfl, Nat.le_of_ble_eq_true rfl⟩ (List.range 7) (jrange _) (by decide) (jspF rfl) [0, 1, 2, 3, 4, 5] rfl rfl (Nat.le_of_ble_eq_true rfl) dX3_does_86 ⟨Nat.zero_le _, Nat.zero_le _⟩ ?_
            refine j_goto (pc := 89) (tgt := 106) C dX3_does_89 (by decide) ?_
            cases hF
            exact j_vret (pc := 106) C K hr hlk dX3_does_106
          · replace hF := ifn hF c11
            have ec1 : x1.toInt ≠ 0 := i32_ne c1
            have ec3 : x1.toInt ≠ 1 := i32_ne c3
            have ec6 : x1.toInt ≠ 2 := i32_ne c6
            have ec9 : x1.toInt ≠ 3 := i32_ne c9
            have ec11 : x1.toInt ≠ 4 := i32_ne c11
            refine j_tout (pc := 1) (tgt := 92) C dX3_does_1 (by omega) (by decide) ?_
            refine j_iload_n (pc := 92) C 2 dX3_does_92 rfl rfl ?_
            obtain ⟨rq13, hq13, hF⟩ := bd1_some hF
            refine j_callSi (pc := 93) (As := [.int x2]) (rest := []) (ws' := (mw a k mW mC mL mR mQ mE mtb mnC mnL mnR mov mnQ mwr mwl mft mth mpl)) C K (ctX3_isPlace l D  _ _ hq13) gX3_does_X3_isPlace rfl rfl rfl hdyX3_isPlace ⟨Nat.le_of_ble_eq_true rfl, Nat.le_of_ble_eq_true rfl⟩ [] rfl rfl jsp0 [] rfl rfl (Nat.le_of_ble_eq_true rfl) dX3_does_93 ⟨Nat.zero_le _, Nat.zero_le _⟩ ?_
            refine j_if_eq (pc := 96) (tgt := 106) C dX3_does_96 (by decide) (fun c14 => ?_) (fun c14 => ?_)
            · replace hF := ifp hF c14
              cases hF
              exact j_vret (pc := 106) C K hr hlk dX3_does_106
            · replace hF := ifn hF c14
              refine j_aload_n (pc := 99) C 0 dX3_does_99 rfl rfl ?_
              refine j_get (pc := 100) (v := .ref (a 1)) C K inX3_does_X3 0 rfl rfl 0 (by decide) lkX3_does_9 rfl dX3_does_100 ?_
              refine j_iload_n (pc := 103) C 2 dX3_does_103 rfl rfl ?_
              refine j_iload_n (pc := 104) C 3 dX3_does_104 rfl rfl ?_
              obtain ⟨g15, hF⟩ := gd_some hF
              refine j_iast (pc := 105) (ws' := (mw a k (upd mW x2.toNatClampNeg x3) mC mL mR mQ mE mtb mnC mnL mnR mov mnQ mwr mwl mft mth mpl)) C K 1 0 rfl rfl g15 rfl dX3_does_105 ?_
              cases hF
              exact j_vret (pc := 106) C K hr hlk dX3_does_106
theorem lkX3_obey_28 : Cond.fieldLink RX3 28 (TX3 14).1 (TX3 14).2.1 (TX3 14).2.2.1 ∈ wsX3_obey := by decide +kernel
theorem lkX3_obey_99 : Cond.fieldLink RX3 99 (TX3 10).1 (TX3 10).2.1 (TX3 10).2.2.1 ∈ wsX3_obey := by decide +kernel
theorem lkX3_obey_22 : Cond.fieldLink RX3 22 (TX3 9).1 (TX3 9).2.1 (TX3 9).2.2.1 ∈ wsX3_obey := by decide +kernel
theorem inX3_obey_X3 : ∀ w ∈ u_ws RX3 TX3 17, w ∈ wsX3_obey := by decide +kernel
theorem hdyX3_obey : yX3_obey.cls = RX3 ∧ yX3_obey.cls ≠ "java/lang/invoke/MethodHandle" ∧ yX3_obey.cls ≠ "java/lang/invoke/VarHandle" ∧ (parseMethodDescriptor yX3_obey.desc).map (fun d => d.parameters.length) = some 1 := by decide +kernel
set_option maxHeartbeats 4000000 in
set_option maxRecDepth 100000 in
theorem ctX3_obey (l : Launch) (D : va_G) (a : Nat → Nat) (k : Nat → ClassId) (mW : Nat → Int32) (mC : Nat → Int32) (mL : Nat → Int32) (mR : Nat → Int32) (mQ : Nat → Int32) (mE : Nat → Int32) (mtb : Int32) (mnC : Int32) (mnL : Int32) (mnR : Int32) (mov : Int32) (mnQ : Int32) (mwr : Int32) (mwl : Int32) (mft : Int32) (mth : Int32) (mpl : Int32) (x1 : Int32) (r : Int32) (omW : Nat → Int32) (omC : Nat → Int32) (omL : Nat → Int32) (omQ : Nat → Int32) (omnC : Int32) (omnL : Int32) (omnQ : Int32) (omth : Int32) (hF : FX3_obey x1 mW mC mL mQ mnC mnL mnQ mth = some (r, omW, omC, omL, omQ, omnC, omnL, omnQ, omth)) : ji l yX3_obey wsX3_obey { frames := 2, cells := 0, slots := 0, locals := 51 } D (mt k) [.ref (a 0), .int x1] (mw a k mW mC mL mR mQ mE mtb mnC mnL mnR mov mnQ mwr mwl mft mth mpl) (mw a k omW omC omL mR omQ mE mtb omnC omnL mnR mov omnQ mwr mwl mft omth mpl) r := by
  refine j_mi (cc := cX3_obey) (maxL := 6) (own := RX3) (ret := (some .int)) (by decide) rfl rfl (Nat.le_of_ble_eq_true rfl) ?_
  intro p e s m args below meth c A C K hr hlk
  have K13 : ∀ (n : Nat) (mW : Nat → Int32) (mC : Nat → Int32) (mL : Nat → Int32) (mQ : Nat → Int32) (mnC : Int32) (mnL : Int32) (mnQ : Int32) (mth : Int32) (v2 : Int32), FX3_obey_13 x1 n mW mC mL mQ mnC mnL mnQ mth v2 = some (r, omW, omC, omL, omQ, omnC, omnL, omnQ, omth) → jw p l e ({ frames := 2, cells := 0, slots := 0, locals := 51 } : Room) s m args below meth c 6 D A 0 0 (jqi below D (mt k) args s A (mw a k omW omC omL mR omQ mE mtb omnC omnL mnR mov omnQ mwr mwl mft omth mpl) r) (mw a k mW mC mL mR mQ mE mtb mnC mnL mnR mov mnQ mwr mwl mft mth mpl) [(0, .ref (a 0)), (1, .int x1), (2, .int v2)] 13 [] := by
    intro n
    induction n with
    | zero =>
      intro mW mC mL mQ mnC mnL mnQ mth v2 hF
      rw [FX3_obey_13] at hF
      cases hF
    | succ n ih =>
      intro mW mC mL mQ mnC mnL mnQ mth v2 hF
      rw [FX3_obey_13] at hF
      refine j_iload_n (pc := 13) C 2 dX3_obey_13 rfl rfl ?_
      refine j_iload_n (pc := 14) C 1 dX3_obey_14 rfl rfl ?_
      refine j_icmp_ge (pc := 15) (tgt := 85) C dX3_obey_15 (by decide) (fun c2 => ?_) (fun c2 => ?_)
      · replace hF := ifp hF c2
        refine j_iload_n (pc := 85) C 2 dX3_obey_85 rfl rfl ?_
        cases hF
        exact j_iret (pc := 86) C K hr hlk dX3_obey_86
      · replace hF := ifn hF c2
        refine j_aload_n (pc := 18) C 0 dX3_obey_18 rfl rfl ?_
        refine j_get (pc := 19) (v := .int mnQ) C K inX3_obey_X3 0 rfl rfl 10 (by decide) lkX3_obey_99 rfl dX3_obey_19 ?_
        refine j_if_le (pc := 22) (tgt := 85) C dX3_obey_22 (by decide) (fun c3 => ?_) (fun c3 => ?_)
        · replace hF := ifp hF c3
          refine j_iload_n (pc := 85) C 2 dX3_obey_85 rfl rfl ?_
          cases hF
          exact j_iret (pc := 86) C K hr hlk dX3_obey_86
        · replace hF := ifn hF c3
          refine j_aload_n (pc := 25) C 0 dX3_obey_25 rfl rfl ?_
          refine j_get (pc := 26) (v := .ref (a 5)) C K inX3_obey_X3 0 rfl rfl 9 (by decide) lkX3_obey_22 rfl dX3_obey_26 ?_
          refine j_iconst (pc := 29) (v := 0) C dX3_obey_29 (by decide) ?_
          obtain ⟨g4, hF⟩ := gd_some hF
          refine j_iald (pc := 30) C K 5 4 rfl rfl g4 dX3_obey_30 ?_
          refine j_istore_n (pc := 31) (lv' := [(3, .int (mQ (0 : Int32).toNatClampNeg)), (0, .ref (a 0)), (1, .int x1), (2, .int v2)]) C dX3_obey_31 rfl (by decide) rfl ?_
          refine j_aload_n (pc := 32) C 1 dX3_obey_32 rfl rfl ?_
          refine j_get (pc := 33) (v := .ref (a 5)) C K inX3_obey_X3 0 rfl rfl 9 (by decide) lkX3_obey_22 rfl dX3_obey_33 ?_
          refine j_iconst (pc := 36) (v := 1) C dX3_obey_36 (by decide) ?_
          obtain ⟨g5, hF⟩ := gd_some hF
          refine j_iald (pc := 37) C K 5 4 rfl rfl g5 dX3_obey_37 ?_
          refine j_istore (pc := 38) (lv' := [(4, .int (mQ (1 : Int32).toNatClampNeg)), (3, .int (mQ (0 : Int32).toNatClampNeg)), (0, .ref (a 0)), (1, .int x1), (2, .int v2)]) C dX3_obey_38 (by decide) rfl ?_
          refine j_aload_n (pc := 40) C 2 dX3_obey_40 rfl rfl ?_
          refine j_get (pc := 41) (v := .ref (a 5)) C K inX3_obey_X3 0 rfl rfl 9 (by decide) lkX3_obey_22 rfl dX3_obey_41 ?_
          refine j_iconst (pc := 44) (v := 2) C dX3_obey_44 (by decide) ?_
          obtain ⟨g6, hF⟩ := gd_some hF
          refine j_iald (pc := 45) C K 5 4 rfl rfl g6 dX3_obey_45 ?_
          refine j_istore (pc := 46) (lv' := [(5, .int (mQ (2 : Int32).toNatClampNeg)), (4, .int (mQ (1 : Int32).toNatClampNeg)), (3, .int (mQ (0 : Int32).toNatClampNeg)), (0, .ref (a 0)), (1, .int x1), (2, .int v2)]) C dX3_obey_46 (by decide) rfl ?_
          refine j_aload_n (pc := 48) C 3 dX3_obey_48 rfl rfl ?_
          refine j_get (pc := 49) (v := .ref (a 5)) C K inX3_obey_X3 0 rfl rfl 9 (by decide) lkX3_obey_22 rfl dX3_obey_49 ?_
          refine j_iconst (pc := 52) (v := 3) C dX3_obey_52 (by decide) ?_
          refine j_aload_n (pc := 53) C 3 dX3_obey_53 rfl rfl ?_
          refine j_get (pc := 54) (v := .int mnQ) C K inX3_obey_X3 0 rfl rfl 10 (by decide) lkX3_obey_99 rfl dX3_obey_54 ?_
          obtain ⟨q7sB, hq7, hF⟩ := bd1_some hF
          refine j_callSv (pc := 57) (As := [.ref (a 5), .int 3, .int mnQ]) (rest := []) (ws' := (mw a k mW mC mL mR q7sB mE mtb mnC mnL mnR mov mnQ mwr mwl mft mth mpl)) C K (ctX3_shift l D (a 5) (k 5) 36 _ _ _ _ hq7) gX3_obey_X3_shift rfl rfl rfl hdyX3_shift ⟨Nat.le_of_ble_eq_true rfl, Nat.le_of_ble_eq_true rfl⟩ [5] rfl (nd1 _) (jsp_eq (jsp1 (Nat.le_of_ble_eq_true rfl)) rfl) [4] rfl rfl (Nat.le_of_ble_eq_true rfl) dX3_obey_57 ⟨Nat.zero_le _, Nat.zero_le _⟩ ?_
          refine j_aload_n (pc := 60) C 3 dX3_obey_60 rfl rfl ?_
          refine j_dup (pc := 61) C dX3_obey_61 rfl ?_
          refine j_get (pc := 62) (v := .int mnQ) C K inX3_obey_X3 0 rfl rfl 10 (by decide) lkX3_obey_99 rfl dX3_obey_62 ?_
          refine j_iconst (pc := 65) (v := 1) C dX3_obey_65 (by decide) ?_
          refine j_isub (pc := 66) C dX3_obey_66 ?_
          refine j_put (pc := 67) (ws' := (mw a k mW mC mL mR q7sB mE mtb mnC mnL mnR mov (mnQ - 1) mwr mwl mft mth mpl)) C K inX3_obey_X3 tyX3 tyX3_ok nmX3 0 rfl rfl 10 (by decide) lkX3_obey_99 rfl (tyX3_ok 10 (by decide)) rfl rfl (Nat.le_of_ble_eq_true rfl) rfl dX3_obey_67 ?_
          refine j_aload_n (pc := 70) C 3 dX3_obey_70 rfl rfl ?_
          refine j_iload_n (pc := 71) C 2 dX3_obey_71 rfl rfl ?_
          refine j_iload (pc := 72) C 1 dX3_obey_72 rfl ?_
          refine j_iload (pc := 74) C 0 dX3_obey_74 rfl ?_
          obtain ⟨q8mW, q8mC, q8mL, q8mnC, q8mnL, hq8, hF⟩ := bd5_some hF
          refine j_callVv (pc := 76) (As := [.int (mQ (0 : Int32).toNatClampNeg), .int (mQ (1 : Int32).toNatClampNeg), .int (mQ (2 : Int32).toNatClampNeg)]) (rest := []) (ws' := (mw a k q8mW q8mC q8mL mR q7sB mE mtb q8mnC q8mnL mnR mov (mnQ - 1) mwr mwl mft mth mpl)) C K (ci := 3) (q0 := 0) rfl rfl rfl (ctX3_does l D a k _ _ _ _ _ _ _ _ _ _ _ _ _ _ _ _ _ _ _ _ _ _ _ _ _ hq8) gX3_obey_X3_does rfl rfl rfl hdyX3_does ⟨Nat.le_of_ble_eq_true rfl, Nat.le_of_ble_eq_true rfl⟩ (List.range 7) (jrange _) (by decide) (jspF rfl) [0, 1, 2, 3, 4, 5] rfl rfl (Nat.le_of_ble_eq_true rfl) dX3_obey_76 ⟨Nat.zero_le _, Nat.zero_le _⟩ ?_
          refine j_iinc (pc := 79) (v := (v2 + 1)) (lv' := [(2, .int (v2 + 1)), (5, .int (mQ (2 : Int32).toNatClampNeg)), (4, .int (mQ (1 : Int32).toNatClampNeg)), (3, .int (mQ (0 : Int32).toNatClampNeg)), (0, .ref (a 0)), (1, .int x1)]) C 5 dX3_obey_79 rfl rfl (by decide) rfl ?_
          refine j_goto (pc := 82) (tgt := 13) C dX3_obey_82 (by decide) ?_
          exact j_lv [4, 5, 0] rfl (ih _ _ _ _ _ _ _ _ _ hF)
  unfold FX3_obey at hF
  refine j_aload_n (pc := 0) C 0 dX3_obey_0 rfl rfl ?_
  refine j_iconst (pc := 1) (v := 0) C dX3_obey_1 (by decide) ?_
  refine j_put (pc := 2) (ws' := (mw a k mW mC mL mR mQ mE mtb mnC mnL mnR mov mnQ mwr mwl mft 0 mpl)) C K inX3_obey_X3 tyX3 tyX3_ok nmX3 0 rfl rfl 14 (by decide) lkX3_obey_28 rfl (tyX3_ok 14 (by decide)) rfl rfl (Nat.le_of_ble_eq_true rfl) rfl dX3_obey_2 ?_
  refine j_iload_n (pc := 5) C 1 dX3_obey_5 rfl rfl ?_
  refine j_if_ge (pc := 6) (tgt := 11) C dX3_obey_6 (by decide) (fun c1 => ?_) (fun c1 => ?_)
  · replace hF := ifp hF c1
    refine j_iconst (pc := 11) (v := 0) C dX3_obey_11 (by decide) ?_
    refine j_istore_n (pc := 12) (lv' := [(2, .int 0), (0, .ref (a 0)), (1, .int x1)]) C dX3_obey_12 rfl (by decide) rfl ?_
    exact j_lv [1, 2, 0] rfl (K13 _ _ _ _ _ _ _ _ _ _ hF)
  · replace hF := ifn hF c1
    refine j_iconst (pc := 9) (v := (-1)) C dX3_obey_9 (by decide) ?_
    cases hF
    exact j_iret (pc := 10) C K hr hlk dX3_obey_10
theorem lkX3_count_28 : Cond.fieldLink RX3 28 (TX3 14).1 (TX3 14).2.1 (TX3 14).2.2.1 ∈ wsX3_count := by decide +kernel
theorem lkX3_count_99 : Cond.fieldLink RX3 99 (TX3 10).1 (TX3 10).2.1 (TX3 10).2.2.1 ∈ wsX3_count := by decide +kernel
theorem lkX3_count_84 : Cond.fieldLink RX3 84 (TX3 7).1 (TX3 7).2.1 (TX3 7).2.2.1 ∈ wsX3_count := by decide +kernel
theorem lkX3_count_87 : Cond.fieldLink RX3 87 (TX3 8).1 (TX3 8).2.1 (TX3 8).2.2.1 ∈ wsX3_count := by decide +kernel
theorem lkX3_count_42 : Cond.fieldLink RX3 42 (TX3 3).1 (TX3 3).2.1 (TX3 3).2.2.1 ∈ wsX3_count := by decide +kernel
theorem lkX3_count_49 : Cond.fieldLink RX3 49 (TX3 5).1 (TX3 5).2.1 (TX3 5).2.2.1 ∈ wsX3_count := by decide +kernel
theorem lkX3_count_57 : Cond.fieldLink RX3 57 (TX3 11).1 (TX3 11).2.1 (TX3 11).2.2.1 ∈ wsX3_count := by decide +kernel
theorem lkX3_count_71 : Cond.fieldLink RX3 71 (TX3 12).1 (TX3 12).2.1 (TX3 12).2.2.1 ∈ wsX3_count := by decide +kernel
theorem lkX3_count_36 : Cond.fieldLink RX3 36 (TX3 1).1 (TX3 1).2.1 (TX3 1).2.2.1 ∈ wsX3_count := by decide +kernel
theorem inX3_count_X3 : ∀ w ∈ u_ws RX3 TX3 17, w ∈ wsX3_count := by decide +kernel
theorem hdyX3_count : yX3_count.cls = RX3 ∧ yX3_count.cls ≠ "java/lang/invoke/MethodHandle" ∧ yX3_count.cls ≠ "java/lang/invoke/VarHandle" ∧ (parseMethodDescriptor yX3_count.desc).map (fun d => d.parameters.length) = some 1 := by decide +kernel
set_option maxHeartbeats 4000000 in
set_option maxRecDepth 100000 in
theorem ctX3_count (l : Launch) (D : va_G) (a : Nat → Nat) (k : Nat → ClassId) (mW : Nat → Int32) (mC : Nat → Int32) (mL : Nat → Int32) (mR : Nat → Int32) (mQ : Nat → Int32) (mE : Nat → Int32) (mtb : Int32) (mnC : Int32) (mnL : Int32) (mnR : Int32) (mov : Int32) (mnQ : Int32) (mwr : Int32) (mwl : Int32) (mft : Int32) (mth : Int32) (mpl : Int32) (x1 : Int32) (r : Int32) (omth : Int32) (hF : FX3_count x1 mtb mnC mnL mnR mov mnQ mwr mwl mth = some (r, omth)) : ji l yX3_count wsX3_count { frames := 0, cells := 0, slots := 0, locals := 0 } D (mt k) [.ref (a 0), .int x1] (mw a k mW mC mL mR mQ mE mtb mnC mnL mnR mov mnQ mwr mwl mft mth mpl) (mw a k mW mC mL mR mQ mE mtb mnC mnL mnR mov mnQ mwr mwl mft omth mpl) r := by
  refine j_mi (cc := cX3_count) (maxL := 2) (own := RX3) (ret := (some .int)) (by decide) rfl rfl (Nat.le_of_ble_eq_true rfl) ?_
  intro p e s m args below meth c A C K hr hlk
  unfold FX3_count at hF
  refine j_aload_n (pc := 0) C 0 dX3_count_0 rfl rfl ?_
  refine j_iconst (pc := 1) (v := 0) C dX3_count_1 (by decide) ?_
  refine j_put (pc := 2) (ws' := (mw a k mW mC mL mR mQ mE mtb mnC mnL mnR mov mnQ mwr mwl mft 0 mpl)) C K inX3_count_X3 tyX3 tyX3_ok nmX3 0 rfl rfl 14 (by decide) lkX3_count_28 rfl (tyX3_ok 14 (by decide)) rfl rfl (Nat.le_of_ble_eq_true rfl) rfl dX3_count_2 ?_
  refine j_iload_n (pc := 5) C 1 dX3_count_5 rfl rfl ?_
  by_cases c1 : x1 = 0
  · replace hF := ifp hF c1
    refine j_tin (pc := 6) (tgt := 52) (off := 46) C dX3_count_6 (by rw [c1]; decide) (by rw [c1]; decide) (by rw [c1]; rfl) (by decide) ?_
    refine j_aload_n (pc := 52) C 0 dX3_count_52 rfl rfl ?_
    refine j_get (pc := 53) (v := .int mnQ) C K inX3_count_X3 0 rfl rfl 10 (by decide) lkX3_count_99 rfl dX3_count_53 ?_
    cases hF
    exact j_iret (pc := 56) C K hr hlk dX3_count_56
  · replace hF := ifn hF c1
    by_cases c2 : x1 = 1
    · replace hF := ifp hF c2
      refine j_tin (pc := 6) (tgt := 57) (off := 51) C dX3_count_6 (by rw [c2]; decide) (by rw [c2]; decide) (by rw [c2]; rfl) (by decide) ?_
      refine j_aload_n (pc := 57) C 0 dX3_count_57 rfl rfl ?_
      refine j_get (pc := 58) (v := .int mnR) C K inX3_count_X3 0 rfl rfl 7 (by decide) lkX3_count_84 rfl dX3_count_58 ?_
      cases hF
      exact j_iret (pc := 61) C K hr hlk dX3_count_61
    · replace hF := ifn hF c2
      by_cases c3 : x1 = 2
      · replace hF := ifp hF c3
        refine j_tin (pc := 6) (tgt := 62) (off := 56) C dX3_count_6 (by rw [c3]; decide) (by rw [c3]; decide) (by rw [c3]; rfl) (by decide) ?_
        refine j_aload_n (pc := 62) C 0 dX3_count_62 rfl rfl ?_
        refine j_get (pc := 63) (v := .int mov) C K inX3_count_X3 0 rfl rfl 8 (by decide) lkX3_count_87 rfl dX3_count_63 ?_
        refine j_if_eq (pc := 66) (tgt := 73) C dX3_count_66 (by decide) (fun c4 => ?_) (fun c4 => ?_)
        · replace hF := ifp hF c4
          refine j_iconst (pc := 73) (v := 0) C dX3_count_73 (by decide) ?_
          cases hF
          exact j_iret (pc := 74) C K hr hlk dX3_count_74
        · replace hF := ifn hF c4
          refine j_iconst (pc := 69) (v := 1) C dX3_count_69 (by decide) ?_
          refine j_goto (pc := 70) (tgt := 74) C dX3_count_70 (by decide) ?_
          cases hF
          exact j_iret (pc := 74) C K hr hlk dX3_count_74
      · replace hF := ifn hF c3
        by_cases c5 : x1 = 3
        · replace hF := ifp hF c5
          refine j_tin (pc := 6) (tgt := 75) (off := 69) C dX3_count_6 (by rw [c5]; decide) (by rw [c5]; decide) (by rw [c5]; rfl) (by decide) ?_
          refine j_aload_n (pc := 75) C 0 dX3_count_75 rfl rfl ?_
          refine j_get (pc := 76) (v := .int mnC) C K inX3_count_X3 0 rfl rfl 3 (by decide) lkX3_count_42 rfl dX3_count_76 ?_
          cases hF
          exact j_iret (pc := 79) C K hr hlk dX3_count_79
        · replace hF := ifn hF c5
          by_cases c6 : x1 = 4
          · replace hF := ifp hF c6
            refine j_tin (pc := 6) (tgt := 80) (off := 74) C dX3_count_6 (by rw [c6]; decide) (by rw [c6]; decide) (by rw [c6]; rfl) (by decide) ?_
            refine j_aload_n (pc := 80) C 0 dX3_count_80 rfl rfl ?_
            refine j_get (pc := 81) (v := .int mnL) C K inX3_count_X3 0 rfl rfl 5 (by decide) lkX3_count_49 rfl dX3_count_81 ?_
            cases hF
            exact j_iret (pc := 84) C K hr hlk dX3_count_84
          · replace hF := ifn hF c6
            by_cases c7 : x1 = 5
            · replace hF := ifp hF c7
              refine j_tin (pc := 6) (tgt := 85) (off := 79) C dX3_count_6 (by rw [c7]; decide) (by rw [c7]; decide) (by rw [c7]; rfl) (by decide) ?_
              refine j_aload_n (pc := 85) C 0 dX3_count_85 rfl rfl ?_
              refine j_get (pc := 86) (v := .int mwr) C K inX3_count_X3 0 rfl rfl 11 (by decide) lkX3_count_57 rfl dX3_count_86 ?_
              cases hF
              exact j_iret (pc := 89) C K hr hlk dX3_count_89
            · replace hF := ifn hF c7
              by_cases c8 : x1 = 6
              · replace hF := ifp hF c8
                refine j_tin (pc := 6) (tgt := 90) (off := 84) C dX3_count_6 (by rw [c8]; decide) (by rw [c8]; decide) (by rw [c8]; rfl) (by decide) ?_
                refine j_aload_n (pc := 90) C 0 dX3_count_90 rfl rfl ?_
                refine j_get (pc := 91) (v := .int mwl) C K inX3_count_X3 0 rfl rfl 12 (by decide) lkX3_count_71 rfl dX3_count_91 ?_
                cases hF
                exact j_iret (pc := 94) C K hr hlk dX3_count_94
              · replace hF := ifn hF c8
                by_cases c9 : x1 = 7
                · replace hF := ifp hF c9
                  refine j_tin (pc := 6) (tgt := 95) (off := 89) C dX3_count_6 (by rw [c9]; decide) (by rw [c9]; decide) (by rw [c9]; rfl) (by decide) ?_
                  refine j_aload_n (pc := 95) C 0 dX3_count_95 rfl rfl ?_
                  refine j_get (pc := 96) (v := .int mtb) C K inX3_count_X3 0 rfl rfl 1 (by decide) lkX3_count_36 rfl dX3_count_96 ?_
                  cases hF
                  exact j_iret (pc := 99) C K hr hlk dX3_count_99
                · replace hF := ifn hF c9
                  have ec1 : x1.toInt ≠ 0 := i32_ne c1
                  have ec2 : x1.toInt ≠ 1 := i32_ne c2
                  have ec3 : x1.toInt ≠ 2 := i32_ne c3
                  have ec5 : x1.toInt ≠ 3 := i32_ne c5
                  have ec6 : x1.toInt ≠ 4 := i32_ne c6
                  have ec7 : x1.toInt ≠ 5 := i32_ne c7
                  have ec8 : x1.toInt ≠ 6 := i32_ne c8
                  have ec9 : x1.toInt ≠ 7 := i32_ne c9
                  refine j_tout (pc := 6) (tgt := 100) C dX3_count_6 (by omega) (by decide) ?_
                  refine j_iconst (pc := 100) (v := (-1)) C dX3_count_100 (by decide) ?_
                  cases hF
                  exact j_iret (pc := 101) C K hr hlk dX3_count_101
theorem lkX3_record_28 : Cond.fieldLink RX3 28 (TX3 14).1 (TX3 14).2.1 (TX3 14).2.2.1 ∈ wsX3_record := by decide +kernel
theorem lkX3_record_84 : Cond.fieldLink RX3 84 (TX3 7).1 (TX3 7).2.1 (TX3 7).2.2.1 ∈ wsX3_record := by decide +kernel
theorem lkX3_record_19 : Cond.fieldLink RX3 19 (TX3 6).1 (TX3 6).2.1 (TX3 6).2.2.1 ∈ wsX3_record := by decide +kernel
theorem inX3_record_X3 : ∀ w ∈ u_ws RX3 TX3 17, w ∈ wsX3_record := by decide +kernel
theorem hdyX3_record : yX3_record.cls = RX3 ∧ yX3_record.cls ≠ "java/lang/invoke/MethodHandle" ∧ yX3_record.cls ≠ "java/lang/invoke/VarHandle" ∧ (parseMethodDescriptor yX3_record.desc).map (fun d => d.parameters.length) = some 2 := by decide +kernel
set_option maxHeartbeats 4000000 in
set_option maxRecDepth 100000 in
theorem ctX3_record (l : Launch) (D : va_G) (a : Nat → Nat) (k : Nat → ClassId) (mW : Nat → Int32) (mC : Nat → Int32) (mL : Nat → Int32) (mR : Nat → Int32) (mQ : Nat → Int32) (mE : Nat → Int32) (mtb : Int32) (mnC : Int32) (mnL : Int32) (mnR : Int32) (mov : Int32) (mnQ : Int32) (mwr : Int32) (mwl : Int32) (mft : Int32) (mth : Int32) (mpl : Int32) (x1 x2 : Int32) (r : Int32) (omth : Int32) (hF : FX3_record x1 x2 mR mnR mth = some (r, omth)) : ji l yX3_record wsX3_record { frames := 0, cells := 0, slots := 0, locals := 0 } D (mt k) [.ref (a 0), .int x1, .int x2] (mw a k mW mC mL mR mQ mE mtb mnC mnL mnR mov mnQ mwr mwl mft mth mpl) (mw a k mW mC mL mR mQ mE mtb mnC mnL mnR mov mnQ mwr mwl mft omth mpl) r := by
  refine j_mi (cc := cX3_record) (maxL := 3) (own := RX3) (ret := (some .int)) (by decide) rfl rfl (Nat.le_of_ble_eq_true rfl) ?_
  intro p e s m args below meth c A C K hr hlk
  unfold FX3_record at hF
  refine j_aload_n (pc := 0) C 0 dX3_record_0 rfl rfl ?_
  refine j_iconst (pc := 1) (v := 0) C dX3_record_1 (by decide) ?_
  refine j_put (pc := 2) (ws' := (mw a k mW mC mL mR mQ mE mtb mnC mnL mnR mov mnQ mwr mwl mft 0 mpl)) C K inX3_record_X3 tyX3 tyX3_ok nmX3 0 rfl rfl 14 (by decide) lkX3_record_28 rfl (tyX3_ok 14 (by decide)) rfl rfl (Nat.le_of_ble_eq_true rfl) rfl dX3_record_2 ?_
  refine j_iload_n (pc := 5) C 1 dX3_record_5 rfl rfl ?_
  refine j_if_lt (pc := 6) (tgt := 39) C dX3_record_6 (by decide) (fun c1 => ?_) (fun c1 => ?_)
  · replace hF := ifp hF c1
    refine j_iconst (pc := 39) (v := (-1)) C dX3_record_39 (by decide) ?_
    cases hF
    exact j_iret (pc := 40) C K hr hlk dX3_record_40
  · replace hF := ifn hF c1
    refine j_iload_n (pc := 9) C 1 dX3_record_9 rfl rfl ?_
    refine j_aload_n (pc := 10) C 0 dX3_record_10 rfl rfl ?_
    refine j_get (pc := 11) (v := .int mnR) C K inX3_record_X3 0 rfl rfl 7 (by decide) lkX3_record_84 rfl dX3_record_11 ?_
    refine j_icmp_ge (pc := 14) (tgt := 39) C dX3_record_14 (by decide) (fun c2 => ?_) (fun c2 => ?_)
    · replace hF := ifp hF c2
      refine j_iconst (pc := 39) (v := (-1)) C dX3_record_39 (by decide) ?_
      cases hF
      exact j_iret (pc := 40) C K hr hlk dX3_record_40
    · replace hF := ifn hF c2
      refine j_iload_n (pc := 17) C 2 dX3_record_17 rfl rfl ?_
      refine j_if_lt (pc := 18) (tgt := 39) C dX3_record_18 (by decide) (fun c3 => ?_) (fun c3 => ?_)
      · replace hF := ifp hF c3
        refine j_iconst (pc := 39) (v := (-1)) C dX3_record_39 (by decide) ?_
        cases hF
        exact j_iret (pc := 40) C K hr hlk dX3_record_40
      · replace hF := ifn hF c3
        refine j_iload_n (pc := 21) C 2 dX3_record_21 rfl rfl ?_
        refine j_iconst (pc := 22) (v := 4) C dX3_record_22 (by decide) ?_
        refine j_icmp_ge (pc := 23) (tgt := 39) C dX3_record_23 (by decide) (fun c4 => ?_) (fun c4 => ?_)
        · replace hF := ifp hF c4
          refine j_iconst (pc := 39) (v := (-1)) C dX3_record_39 (by decide) ?_
          cases hF
          exact j_iret (pc := 40) C K hr hlk dX3_record_40
        · replace hF := ifn hF c4
          refine j_aload_n (pc := 26) C 0 dX3_record_26 rfl rfl ?_
          refine j_get (pc := 27) (v := .ref (a 4)) C K inX3_record_X3 0 rfl rfl 6 (by decide) lkX3_record_19 rfl dX3_record_27 ?_
          refine j_iconst (pc := 30) (v := 4) C dX3_record_30 (by decide) ?_
          refine j_iload_n (pc := 31) C 1 dX3_record_31 rfl rfl ?_
          refine j_imul (pc := 32) C dX3_record_32 ?_
          refine j_iload_n (pc := 33) C 2 dX3_record_33 rfl rfl ?_
          refine j_iadd (pc := 34) C dX3_record_34 ?_
          obtain ⟨g5, hF⟩ := gd_some hF
          refine j_iald (pc := 35) C K 4 3 rfl rfl g5 dX3_record_35 ?_
          refine j_goto (pc := 36) (tgt := 40) C dX3_record_36 (by decide) ?_
          cases hF
          exact j_iret (pc := 40) C K hr hlk dX3_record_40
theorem lkX3_drop_28 : Cond.fieldLink RX3 28 (TX3 14).1 (TX3 14).2.1 (TX3 14).2.2.1 ∈ wsX3_drop := by decide +kernel
theorem lkX3_drop_84 : Cond.fieldLink RX3 84 (TX3 7).1 (TX3 7).2.1 (TX3 7).2.2.1 ∈ wsX3_drop := by decide +kernel
theorem lkX3_drop_19 : Cond.fieldLink RX3 19 (TX3 6).1 (TX3 6).2.1 (TX3 6).2.2.1 ∈ wsX3_drop := by decide +kernel
theorem inX3_drop_X3 : ∀ w ∈ u_ws RX3 TX3 17, w ∈ wsX3_drop := by decide +kernel
theorem hdyX3_drop : yX3_drop.cls = RX3 ∧ yX3_drop.cls ≠ "java/lang/invoke/MethodHandle" ∧ yX3_drop.cls ≠ "java/lang/invoke/VarHandle" ∧ (parseMethodDescriptor yX3_drop.desc).map (fun d => d.parameters.length) = some 0 := by decide +kernel
set_option maxHeartbeats 4000000 in
set_option maxRecDepth 100000 in
theorem ctX3_drop (l : Launch) (D : va_G) (a : Nat → Nat) (k : Nat → ClassId) (mW : Nat → Int32) (mC : Nat → Int32) (mL : Nat → Int32) (mR : Nat → Int32) (mQ : Nat → Int32) (mE : Nat → Int32) (mtb : Int32) (mnC : Int32) (mnL : Int32) (mnR : Int32) (mov : Int32) (mnQ : Int32) (mwr : Int32) (mwl : Int32) (mft : Int32) (mth : Int32) (mpl : Int32) (r : Int32) (omR : Nat → Int32) (omnR : Int32) (omth : Int32) (hF : FX3_drop mR mnR mth = some (r, omR, omnR, omth)) : ji l yX3_drop wsX3_drop { frames := 1, cells := 0, slots := 0, locals := 23 } D (mt k) [.ref (a 0)] (mw a k mW mC mL mR mQ mE mtb mnC mnL mnR mov mnQ mwr mwl mft mth mpl) (mw a k mW mC mL omR mQ mE mtb mnC mnL omnR mov mnQ mwr mwl mft omth mpl) r := by
  refine j_mi (cc := cX3_drop) (maxL := 1) (own := RX3) (ret := (some .int)) (by decide) rfl rfl (Nat.le_of_ble_eq_true rfl) ?_
  intro p e s m args below meth c A C K hr hlk
  unfold FX3_drop at hF
  refine j_aload_n (pc := 0) C 0 dX3_drop_0 rfl rfl ?_
  refine j_iconst (pc := 1) (v := 0) C dX3_drop_1 (by decide) ?_
  refine j_put (pc := 2) (ws' := (mw a k mW mC mL mR mQ mE mtb mnC mnL mnR mov mnQ mwr mwl mft 0 mpl)) C K inX3_drop_X3 tyX3 tyX3_ok nmX3 0 rfl rfl 14 (by decide) lkX3_drop_28 rfl (tyX3_ok 14 (by decide)) rfl rfl (Nat.le_of_ble_eq_true rfl) rfl dX3_drop_2 ?_
  refine j_aload_n (pc := 5) C 0 dX3_drop_5 rfl rfl ?_
  refine j_get (pc := 6) (v := .int mnR) C K inX3_drop_X3 0 rfl rfl 7 (by decide) lkX3_drop_84 rfl dX3_drop_6 ?_
  refine j_if_ne (pc := 9) (tgt := 14) C dX3_drop_9 (by decide) (fun c1 => ?_) (fun c1 => ?_)
  · replace hF := ifn hF c1
    refine j_aload_n (pc := 14) C 0 dX3_drop_14 rfl rfl ?_
    refine j_get (pc := 15) (v := .ref (a 4)) C K inX3_drop_X3 0 rfl rfl 6 (by decide) lkX3_drop_19 rfl dX3_drop_15 ?_
    refine j_iconst (pc := 18) (v := 4) C dX3_drop_18 (by decide) ?_
    refine j_aload_n (pc := 19) C 0 dX3_drop_19 rfl rfl ?_
    refine j_get (pc := 20) (v := .int mnR) C K inX3_drop_X3 0 rfl rfl 7 (by decide) lkX3_drop_84 rfl dX3_drop_20 ?_
    obtain ⟨q2sB, hq2, hF⟩ := bd1_some hF
    refine j_callSv (pc := 23) (As := [.ref (a 4), .int 4, .int mnR]) (rest := []) (ws' := (mw a k mW mC mL q2sB mQ mE mtb mnC mnL mnR mov mnQ mwr mwl mft 0 mpl)) C K (ctX3_shift l D (a 4) (k 4) 24 _ _ _ _ hq2) gX3_drop_X3_shift rfl rfl rfl hdyX3_shift ⟨Nat.le_of_ble_eq_true rfl, Nat.le_of_ble_eq_true rfl⟩ [4] rfl (nd1 _) (jsp_eq (jsp1 (Nat.le_of_ble_eq_true rfl)) rfl) [3] rfl rfl (Nat.le_of_ble_eq_true rfl) dX3_drop_23 ⟨Nat.zero_le _, Nat.zero_le _⟩ ?_
    refine j_aload_n (pc := 26) C 0 dX3_drop_26 rfl rfl ?_
    refine j_dup (pc := 27) C dX3_drop_27 rfl ?_
    refine j_get (pc := 28) (v := .int mnR) C K inX3_drop_X3 0 rfl rfl 7 (by decide) lkX3_drop_84 rfl dX3_drop_28 ?_
    refine j_iconst (pc := 31) (v := 1) C dX3_drop_31 (by decide) ?_
    refine j_isub (pc := 32) C dX3_drop_32 ?_
    refine j_put (pc := 33) (ws' := (mw a k mW mC mL q2sB mQ mE mtb mnC mnL (mnR - 1) mov mnQ mwr mwl mft 0 mpl)) C K inX3_drop_X3 tyX3 tyX3_ok nmX3 0 rfl rfl 7 (by decide) lkX3_drop_84 rfl (tyX3_ok 7 (by decide)) rfl rfl (Nat.le_of_ble_eq_true rfl) rfl dX3_drop_33 ?_
    refine j_aload_n (pc := 36) C 0 dX3_drop_36 rfl rfl ?_
    refine j_get (pc := 37) (v := .int (mnR - 1)) C K inX3_drop_X3 0 rfl rfl 7 (by decide) lkX3_drop_84 rfl dX3_drop_37 ?_
    cases hF
    exact j_iret (pc := 40) C K hr hlk dX3_drop_40
  · replace hF := ifp hF c1
    refine j_iconst (pc := 12) (v := (-1)) C dX3_drop_12 (by decide) ?_
    cases hF
    exact j_iret (pc := 13) C K hr hlk dX3_drop_13
theorem lkX3_clear_28 : Cond.fieldLink RX3 28 (TX3 14).1 (TX3 14).2.1 (TX3 14).2.2.1 ∈ wsX3_clear := by decide +kernel
theorem lkX3_clear_84 : Cond.fieldLink RX3 84 (TX3 7).1 (TX3 7).2.1 (TX3 7).2.2.1 ∈ wsX3_clear := by decide +kernel
theorem lkX3_clear_87 : Cond.fieldLink RX3 87 (TX3 8).1 (TX3 8).2.1 (TX3 8).2.2.1 ∈ wsX3_clear := by decide +kernel
theorem inX3_clear_X3 : ∀ w ∈ u_ws RX3 TX3 17, w ∈ wsX3_clear := by decide +kernel
theorem hdyX3_clear : yX3_clear.cls = RX3 ∧ yX3_clear.cls ≠ "java/lang/invoke/MethodHandle" ∧ yX3_clear.cls ≠ "java/lang/invoke/VarHandle" ∧ (parseMethodDescriptor yX3_clear.desc).map (fun d => d.parameters.length) = some 0 := by decide +kernel
set_option maxHeartbeats 4000000 in
set_option maxRecDepth 100000 in
theorem ctX3_clear (l : Launch) (D : va_G) (a : Nat → Nat) (k : Nat → ClassId) (mW : Nat → Int32) (mC : Nat → Int32) (mL : Nat → Int32) (mR : Nat → Int32) (mQ : Nat → Int32) (mE : Nat → Int32) (mtb : Int32) (mnC : Int32) (mnL : Int32) (mnR : Int32) (mov : Int32) (mnQ : Int32) (mwr : Int32) (mwl : Int32) (mft : Int32) (mth : Int32) (mpl : Int32) (r : Int32) (omnR : Int32) (omov : Int32) (omth : Int32) (hF : FX3_clear mnR mov mth = some (r, omnR, omov, omth)) : ji l yX3_clear wsX3_clear { frames := 0, cells := 0, slots := 0, locals := 0 } D (mt k) [.ref (a 0)] (mw a k mW mC mL mR mQ mE mtb mnC mnL mnR mov mnQ mwr mwl mft mth mpl) (mw a k mW mC mL mR mQ mE mtb mnC mnL omnR omov mnQ mwr mwl mft omth mpl) r := by
  refine j_mi (cc := cX3_clear) (maxL := 2) (own := RX3) (ret := (some .int)) (by decide) rfl rfl (Nat.le_of_ble_eq_true rfl) ?_
  intro p e s m args below meth c A C K hr hlk
  unfold FX3_clear at hF
  refine j_aload_n (pc := 0) C 0 dX3_clear_0 rfl rfl ?_
  refine j_iconst (pc := 1) (v := 0) C dX3_clear_1 (by decide) ?_
  refine j_put (pc := 2) (ws' := (mw a k mW mC mL mR mQ mE mtb mnC mnL mnR mov mnQ mwr mwl mft 0 mpl)) C K inX3_clear_X3 tyX3 tyX3_ok nmX3 0 rfl rfl 14 (by decide) lkX3_clear_28 rfl (tyX3_ok 14 (by decide)) rfl rfl (Nat.le_of_ble_eq_true rfl) rfl dX3_clear_2 ?_
  refine j_aload_n (pc := 5) C 0 dX3_clear_5 rfl rfl ?_
  refine j_get (pc := 6) (v := .int mnR) C K inX3_clear_X3 0 rfl rfl 7 (by decide) lkX3_clear_84 rfl dX3_clear_6 ?_
  refine j_istore_n (pc := 9) (lv' := [(1, .int mnR), (0, .ref (a 0))]) C dX3_clear_9 rfl (by decide) rfl ?_
  refine j_aload_n (pc := 10) C 1 dX3_clear_10 rfl rfl ?_
  refine j_iconst (pc := 11) (v := 0) C dX3_clear_11 (by decide) ?_
  refine j_put (pc := 12) (ws' := (mw a k mW mC mL mR mQ mE mtb mnC mnL 0 mov mnQ mwr mwl mft 0 mpl)) C K inX3_clear_X3 tyX3 tyX3_ok nmX3 0 rfl rfl 7 (by decide) lkX3_clear_84 rfl (tyX3_ok 7 (by decide)) rfl rfl (Nat.le_of_ble_eq_true rfl) rfl dX3_clear_12 ?_
  refine j_aload_n (pc := 15) C 1 dX3_clear_15 rfl rfl ?_
  refine j_iconst (pc := 16) (v := 0) C dX3_clear_16 (by decide) ?_
  refine j_put (pc := 17) (ws' := (mw a k mW mC mL mR mQ mE mtb mnC mnL 0 0 mnQ mwr mwl mft 0 mpl)) C K inX3_clear_X3 tyX3 tyX3_ok nmX3 0 rfl rfl 8 (by decide) lkX3_clear_87 rfl (tyX3_ok 8 (by decide)) rfl rfl (Nat.le_of_ble_eq_true rfl) rfl dX3_clear_17 ?_
  refine j_iload_n (pc := 20) C 0 dX3_clear_20 rfl rfl ?_
  cases hF
  exact j_iret (pc := 21) C K hr hlk dX3_clear_21
theorem lkX3_leaf_28 : Cond.fieldLink RX3 28 (TX3 14).1 (TX3 14).2.1 (TX3 14).2.2.1 ∈ wsX3_leaf := by decide +kernel
theorem lkX3_leaf_49 : Cond.fieldLink RX3 49 (TX3 5).1 (TX3 5).2.1 (TX3 5).2.2.1 ∈ wsX3_leaf := by decide +kernel
theorem lkX3_leaf_16 : Cond.fieldLink RX3 16 (TX3 4).1 (TX3 4).2.1 (TX3 4).2.2.1 ∈ wsX3_leaf := by decide +kernel
theorem inX3_leaf_X3 : ∀ w ∈ u_ws RX3 TX3 17, w ∈ wsX3_leaf := by decide +kernel
theorem hdyX3_leaf : yX3_leaf.cls = RX3 ∧ yX3_leaf.cls ≠ "java/lang/invoke/MethodHandle" ∧ yX3_leaf.cls ≠ "java/lang/invoke/VarHandle" ∧ (parseMethodDescriptor yX3_leaf.desc).map (fun d => d.parameters.length) = some 2 := by decide +kernel
set_option maxHeartbeats 4000000 in
set_option maxRecDepth 100000 in
theorem ctX3_leaf (l : Launch) (D : va_G) (a : Nat → Nat) (k : Nat → ClassId) (mW : Nat → Int32) (mC : Nat → Int32) (mL : Nat → Int32) (mR : Nat → Int32) (mQ : Nat → Int32) (mE : Nat → Int32) (mtb : Int32) (mnC : Int32) (mnL : Int32) (mnR : Int32) (mov : Int32) (mnQ : Int32) (mwr : Int32) (mwl : Int32) (mft : Int32) (mth : Int32) (mpl : Int32) (x1 x2 : Int32) (r : Int32) (omth : Int32) (hF : FX3_leaf x1 x2 mL mnL mth = some (r, omth)) : ji l yX3_leaf wsX3_leaf { frames := 0, cells := 0, slots := 0, locals := 0 } D (mt k) [.ref (a 0), .int x1, .int x2] (mw a k mW mC mL mR mQ mE mtb mnC mnL mnR mov mnQ mwr mwl mft mth mpl) (mw a k mW mC mL mR mQ mE mtb mnC mnL mnR mov mnQ mwr mwl mft omth mpl) r := by
  refine j_mi (cc := cX3_leaf) (maxL := 3) (own := RX3) (ret := (some .int)) (by decide) rfl rfl (Nat.le_of_ble_eq_true rfl) ?_
  intro p e s m args below meth c A C K hr hlk
  unfold FX3_leaf at hF
  refine j_aload_n (pc := 0) C 0 dX3_leaf_0 rfl rfl ?_
  refine j_iconst (pc := 1) (v := 0) C dX3_leaf_1 (by decide) ?_
  refine j_put (pc := 2) (ws' := (mw a k mW mC mL mR mQ mE mtb mnC mnL mnR mov mnQ mwr mwl mft 0 mpl)) C K inX3_leaf_X3 tyX3 tyX3_ok nmX3 0 rfl rfl 14 (by decide) lkX3_leaf_28 rfl (tyX3_ok 14 (by decide)) rfl rfl (Nat.le_of_ble_eq_true rfl) rfl dX3_leaf_2 ?_
  refine j_iload_n (pc := 5) C 1 dX3_leaf_5 rfl rfl ?_
  refine j_if_lt (pc := 6) (tgt := 39) C dX3_leaf_6 (by decide) (fun c1 => ?_) (fun c1 => ?_)
  · replace hF := ifp hF c1
    refine j_iconst (pc := 39) (v := (-1)) C dX3_leaf_39 (by decide) ?_
    cases hF
    exact j_iret (pc := 40) C K hr hlk dX3_leaf_40
  · replace hF := ifn hF c1
    refine j_iload_n (pc := 9) C 1 dX3_leaf_9 rfl rfl ?_
    refine j_aload_n (pc := 10) C 0 dX3_leaf_10 rfl rfl ?_
    refine j_get (pc := 11) (v := .int mnL) C K inX3_leaf_X3 0 rfl rfl 5 (by decide) lkX3_leaf_49 rfl dX3_leaf_11 ?_
    refine j_icmp_ge (pc := 14) (tgt := 39) C dX3_leaf_14 (by decide) (fun c2 => ?_) (fun c2 => ?_)
    · replace hF := ifp hF c2
      refine j_iconst (pc := 39) (v := (-1)) C dX3_leaf_39 (by decide) ?_
      cases hF
      exact j_iret (pc := 40) C K hr hlk dX3_leaf_40
    · replace hF := ifn hF c2
      refine j_iload_n (pc := 17) C 2 dX3_leaf_17 rfl rfl ?_
      refine j_if_lt (pc := 18) (tgt := 39) C dX3_leaf_18 (by decide) (fun c3 => ?_) (fun c3 => ?_)
      · replace hF := ifp hF c3
        refine j_iconst (pc := 39) (v := (-1)) C dX3_leaf_39 (by decide) ?_
        cases hF
        exact j_iret (pc := 40) C K hr hlk dX3_leaf_40
      · replace hF := ifn hF c3
        refine j_iload_n (pc := 21) C 2 dX3_leaf_21 rfl rfl ?_
        refine j_iconst (pc := 22) (v := 5) C dX3_leaf_22 (by decide) ?_
        refine j_icmp_ge (pc := 23) (tgt := 39) C dX3_leaf_23 (by decide) (fun c4 => ?_) (fun c4 => ?_)
        · replace hF := ifp hF c4
          refine j_iconst (pc := 39) (v := (-1)) C dX3_leaf_39 (by decide) ?_
          cases hF
          exact j_iret (pc := 40) C K hr hlk dX3_leaf_40
        · replace hF := ifn hF c4
          refine j_aload_n (pc := 26) C 0 dX3_leaf_26 rfl rfl ?_
          refine j_get (pc := 27) (v := .ref (a 3)) C K inX3_leaf_X3 0 rfl rfl 4 (by decide) lkX3_leaf_16 rfl dX3_leaf_27 ?_
          refine j_iconst (pc := 30) (v := 5) C dX3_leaf_30 (by decide) ?_
          refine j_iload_n (pc := 31) C 1 dX3_leaf_31 rfl rfl ?_
          refine j_imul (pc := 32) C dX3_leaf_32 ?_
          refine j_iload_n (pc := 33) C 2 dX3_leaf_33 rfl rfl ?_
          refine j_iadd (pc := 34) C dX3_leaf_34 ?_
          obtain ⟨g5, hF⟩ := gd_some hF
          refine j_iald (pc := 35) C K 3 2 rfl rfl g5 dX3_leaf_35 ?_
          refine j_goto (pc := 36) (tgt := 40) C dX3_leaf_36 (by decide) ?_
          cases hF
          exact j_iret (pc := 40) C K hr hlk dX3_leaf_40

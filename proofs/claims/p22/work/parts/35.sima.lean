/-! The pure side in general, 1: rows in closed form -/
/-- numbers below 2^31 as Int32: what the rows compute -/
theorem nI_inb {i n : Nat} (h : i < n) (hn : n < 2 ^ 31) : inb (nI i) n = true := by
  unfold inb
  rw [decide_eq_true_iff, nI_toInt (by omega)]
  omega
theorem nI_cl {i : Nat} (h : i < 2 ^ 31) : (nI i).toNatClampNeg = i := nI_clamp h
theorem nI_mul (a b : Nat) : nI a * nI b = nI (a * b) := pk_mul a b
/-- the cells from a up to b, each from w further on -/
def sh (w a b : Nat) (B : Nat → Int32) : Nat → Int32 := fun q => if a ≤ q ∧ q < b then B (q + w) else B q
theorem sh_in {w a b q : Nat} {B : Nat → Int32} (h1 : a ≤ q) (h2 : q < b) : sh w a b B q = B (q + w) := if_pos ⟨h1, h2⟩
theorem sh_out {w a b q : Nat} {B : Nat → Int32} (h : q < a ∨ b ≤ q) : sh w a b B q = B q := if_neg (by omega)
theorem sh_nil {w a b : Nat} {B : Nat → Int32} (h : b ≤ a) : sh w a b B = B := by
  funext q
  exact sh_out (by omega)
theorem sh_step {w a b : Nat} {B : Nat → Int32} (h : a < b) (hw : 0 < w) : sh w (a + 1) b (upd B a (B (a + w))) = sh w a b B := by
  funext q
  unfold sh upd
  by_cases h1 : q = a
  · subst h1
    rw [if_neg (by omega), if_pos rfl, if_pos ⟨Nat.le_refl _, h⟩]
  · by_cases h2 : a ≤ q ∧ q < b
    · rw [if_pos (by omega), if_neg (by omega), if_pos h2]
    · rw [if_neg (by omega), if_neg h1, if_neg h2]
theorem remove_loop (w len e : Nat) (hw : 0 < w) (hl : e + w ≤ len) (hlen : len < 2 ^ 20) (x1 : Int32) (rn : Int32) : ∀ (n k : Nat) (B : Nat → Int32), k ≤ e → e - k < n → FX1_remove_32 (nI w) len x1 n rn B (nI e) (nI k) = some (rn - 1, sh w k e B) := by
  intro n
  induction n with
  | zero => intro k B _ h; omega
  | succ n ih =>
    intro k B hk hn
    rw [FX1_remove_32]
    by_cases h : e ≤ k
    · rw [if_pos (nI_le h (by omega)), sh_nil h]
    · rw [if_neg (by rw [nI_leI (by omega) (by omega)]; exact h), nI_add, gd_t (nI_inb (by omega) (by omega)), gd_t (nI_inb (by omega) (by omega)), nI_cl (by omega), nI_cl (by omega), nI_1, ih (k + 1) _ (by omega) (by omega), sh_step (by omega) hw]
theorem shift_loop (w len e : Nat) (hw : 0 < w) (hl : e + w ≤ len) (hlen : len < 2 ^ 20) (many : Int32) (he : nI w * (many - 1) = nI e) : ∀ (n k : Nat) (B : Nat → Int32), k ≤ e → e - k < n → FX3_shift_2 len (nI w) many n B (nI k) = some (sh w k e B) := by
  intro n
  induction n with
  | zero => intro k B _ h; omega
  | succ n ih =>
    intro k B hk hn
    rw [FX3_shift_2, he]
    by_cases h : e ≤ k
    · rw [if_pos (nI_le h (by omega)), sh_nil h]
    · rw [if_neg (by rw [nI_leI (by omega) (by omega)]; exact h), nI_add, gd_t (nI_inb (by omega) (by omega)), gd_t (nI_inb (by omega) (by omega)), nI_cl (by omega), nI_cl (by omega), nI_1, ih (k + 1) _ (by omega) (by omega), sh_step (by omega) hw]
/-- Rows.remove(row) -/
theorem remove_eq {w len r n : Nat} (hw : 0 < w) (hr : r < n) (hl : n * w ≤ len) (hlen : len < 1000) (B : Nat → Int32) : FX1_remove (nI w) len (nI r) (nI n) B = some (nI (n - 1), sh w (r * w) ((n - 1) * w) B) := by
  have hn : n ≤ n * w := Nat.le_mul_of_pos_right n hw
  have e1 : (n - 1) * w + w = n * w := by rw [← Nat.succ_mul]; congr 1; omega
  have e2 : r * w ≤ (n - 1) * w := Nat.mul_le_mul_right w (by omega)
  unfold FX1_remove
  rw [if_neg (nI_pos (by omega)), if_pos (nI_lt hr (by omega))]
  have e3 : nI n - 1 = nI (n - 1) := by rw [show (1 : Int32) = nI 1 from rfl, pk_sub (by omega)]
  rw [e3, nI_mul, nI_mul, remove_loop w len ((n - 1) * w) hw (by omega) (by omega) _ _ fuel (r * w) B e2 (by unfold fuel; omega), e3]
theorem shift_eq {w len n : Nat} (hw : 0 < w) (hn : 0 < n) (hl : n * w ≤ len) (hlen : len < 1000) (B : Nat → Int32) : FX3_shift len (nI w) (nI n) B = some (sh w 0 ((n - 1) * w) B) := by
  have e1 : (n - 1) * w + w = n * w := by rw [← Nat.succ_mul]; congr 1; omega
  have hn2 : n ≤ n * w := Nat.le_mul_of_pos_right n hw
  unfold FX3_shift
  have e3 : nI n - 1 = nI (n - 1) := by rw [show (1 : Int32) = nI 1 from rfl, pk_sub (by omega)]
  exact shift_loop w len ((n - 1) * w) hw (by omega) (by omega) (nI n) (by rw [e3, nI_mul, Nat.mul_comm]) fuel 0 B (by omega) (by unfold fuel; omega)
theorem has_in {w r k n : Nat} (hr : r < n) (hk : k < w) (hn : n < 1000) (hw : w < 1000) : FX1_has (nI w) (nI r) (nI k) (nI n) = some 1 := by
  unfold FX1_has
  rw [if_neg (nI_pos (by omega)), if_neg (by rw [nI_leI (by omega) (by omega)]; omega), if_neg (nI_pos (by omega)), if_neg (by rw [nI_leI (by omega) (by omega)]; omega)]
theorem rowin {w r k n : Nat} (hr : r < n) (hk : k < w) : r * w + k < n * w := by
  have : (r + 1) * w ≤ n * w := Nat.mul_le_mul_right w hr
  rw [Nat.succ_mul] at this
  omega
theorem cell_in {w len r k n : Nat} (hr : r < n) (hk : k < w) (hl : n * w ≤ len) (hlen : len < 1000) (hn : n < 1000) (hw : w < 1000) (B : Nat → Int32) : FX1_cell (nI w) len (nI r) (nI k) (nI n) B = some (B (r * w + k)) := by
  have := rowin hr hk
  unfold FX1_cell
  rw [has_in hr hk hn hw, bd1_e, if_neg (by decide), nI_mul, nI_add, gd_t (nI_inb (by omega) (by omega)), nI_cl (by omega)]
theorem put_in {w len r k n : Nat} (hr : r < n) (hk : k < w) (hl : n * w ≤ len) (hlen : len < 1000) (hn : n < 1000) (hw : w < 1000) (v : Int32) (B : Nat → Int32) : FX1_put (nI w) len (nI r) (nI k) v (nI n) B = some (upd B (r * w + k) v) := by
  have := rowin hr hk
  unfold FX1_put
  rw [has_in hr hk hn hw, bd1_e, if_neg (by decide), nI_mul, nI_add, gd_t (nI_inb (by omega) (by omega)), nI_cl (by omega)]
/-- Rows.open(): where the new row is, what is kept -/
theorem open_less {lim w len n : Nat} (h : n < lim) (hlim : lim < 1000) (B : Nat → Int32) : FX1_open (nI lim) (nI w) len (nI n) B = some (nI n, nI (n + 1), B) := by
  unfold FX1_open FX1_isFull
  rw [if_pos (nI_lt h (by omega)), bd1_e, if_pos rfl, nI_1, nI_pred]
theorem open_full {lim w len : Nat} (h0 : 0 < lim) (hw : 0 < w) (hl : lim * w ≤ len) (hlen : len < 1000) (hlim : lim < 1000) (B : Nat → Int32) : FX1_open (nI lim) (nI w) len (nI lim) B = some (nI (lim - 1), nI lim, sh w 0 ((lim - 1) * w) B) := by
  unfold FX1_open FX1_isFull
  have e := remove_eq (w := w) (len := len) (r := 0) (n := lim) hw h0 hl hlen B
  rw [if_neg (nI_nlt (Nat.le_refl _) (by omega)), bd1_e, if_neg (by decide)]
  rw [show (0 : Int32) = nI 0 from rfl, e, bd2_e, nI_1, show lim - 1 + 1 = lim by omega]
  rw [show nI lim - 1 = nI (lim - 1) by rw [show (1 : Int32) = nI 1 from rfl, pk_sub (by omega)], Nat.zero_mul]

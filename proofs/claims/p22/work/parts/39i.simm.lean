/-! The pure side in general, 13: rows are called back, on both sides -/
/-- how many of the first k rows stay -/
def cnt (P : Nat → Prop) [DecidablePred P] : Nat → Nat
  | 0 => 0
  | k + 1 => if P k then cnt P k else cnt P k + 1
theorem cnt_t {P : Nat → Prop} [DecidablePred P] {k : Nat} (h : P k) : cnt P (k + 1) = cnt P k := by rw [cnt, if_pos h]
theorem cnt_f {P : Nat → Prop} [DecidablePred P] {k : Nat} (h : ¬ P k) : cnt P (k + 1) = cnt P k + 1 := by rw [cnt, if_neg h]
theorem cnt_0 (P : Nat → Prop) [DecidablePred P] : cnt P 0 = 0 := rfl
theorem cnt_s (P : Nat → Prop) [DecidablePred P] (k : Nat) : cnt P k ≤ cnt P (k + 1) ∧ cnt P (k + 1) ≤ cnt P k + 1 := by
  by_cases h : P k
  · rw [cnt_t h]; omega
  · rw [cnt_f h]; omega
theorem cnt_add (P : Nat → Prop) [DecidablePred P] (k : Nat) : ∀ d : Nat, cnt P k ≤ cnt P (k + d) ∧ cnt P (k + d) ≤ cnt P k + d := by
  intro d
  induction d with
  | zero => exact ⟨Nat.le_refl _, Nat.le_refl _⟩
  | succ d ih =>
    have := cnt_s P (k + d)
    rw [Nat.add_assoc] at this
    omega
theorem cnt_b (P : Nat → Prop) [DecidablePred P] {i k : Nat} (h : i ≤ k) : cnt P i ≤ cnt P k ∧ cnt P k ≤ cnt P i + (k - i) := by
  have := cnt_add P i (k - i)
  rw [show i + (k - i) = k by omega] at this
  exact this
theorem cnt_lt {P : Nat → Prop} [DecidablePred P] {i k : Nat} (h : i < k) (hp : ¬ P i) : cnt P i < cnt P k := by
  have := cnt_b P (show i + 1 ≤ k from h)
  rw [cnt_f hp] at this
  omega
theorem cnt_onto (P : Nat → Prop) [DecidablePred P] : ∀ k j : Nat, j < cnt P k → ∃ i, i < k ∧ ¬ P i ∧ cnt P i = j := by
  intro k
  induction k with
  | zero => intro j h; exact absurd h (Nat.not_lt_zero j)
  | succ k ih =>
    intro j h
    by_cases hp : P k
    · rw [cnt_t hp] at h
      obtain ⟨i, h1, h2, h3⟩ := ih j h
      exact ⟨i, by omega, h2, h3⟩
    · rw [cnt_f hp] at h
      by_cases hj : j < cnt P k
      · obtain ⟨i, h1, h2, h3⟩ := ih j hj
        exact ⟨i, by omega, h2, h3⟩
      · exact ⟨k, by omega, hp, by omega⟩
theorem cnt_all {P : Nat → Prop} [DecidablePred P] {l : Nat} (h : ∀ i, i < l → ¬ P i) : ∀ k, k ≤ l → cnt P k = k := by
  intro k
  induction k with
  | zero => intro _; rfl
  | succ k ih =>
    intro hk
    rw [cnt_f (h k (by omega)), ih (by omega)]
/-- backwards: the rows from k on are looked at -/
def gInv (w : Nat) (P : Nat → Prop) [DecidablePred P] (l : Nat) (B : Nat → Int32) (k n : Nat) (X : Nat → Int32) : Prop := n = k + (cnt P l - cnt P k) ∧ (∀ q, q < k * w → X q = B q) ∧ ∀ i, k ≤ i → i < l → ¬ P i → ∀ q, q < w → X ((k + (cnt P i - cnt P k)) * w + q) = B (i * w + q)
theorem gInv_start (w : Nat) (P : Nat → Prop) [DecidablePred P] (l : Nat) (B : Nat → Int32) : gInv w P l B l l B := ⟨by omega, fun _ _ => rfl, fun i h1 h2 => by omega⟩
theorem gInv_keep {w : Nat} {P : Nat → Prop} [DecidablePred P] {l : Nat} {B X : Nat → Int32} {k n : Nat} (hk : k < l) (hp : ¬ P k) (h : gInv w P l B (k + 1) n X) : gInv w P l B k n X := by
  obtain ⟨h1, h2, h3⟩ := h
  have e := cnt_f hp
  have b := cnt_b P (show k + 1 ≤ l from hk)
  have m : (k + 1) * w = k * w + w := Nat.succ_mul k w
  refine ⟨by omega, fun q hq => h2 q (by omega), fun i hi hl hpi q hq => ?_⟩
  by_cases ei : i = k
  · subst ei
    rw [Nat.sub_self, Nat.add_zero]
    exact h2 _ (by omega)
  · have b2 := cnt_b P (show k + 1 ≤ i by omega)
    have := h3 i (by omega) hl hpi q hq
    rw [show k + 1 + (cnt P i - cnt P (k + 1)) = k + (cnt P i - cnt P k) by omega] at this
    exact this
theorem gInv_del {w : Nat} {P : Nat → Prop} [DecidablePred P] {l : Nat} {B X : Nat → Int32} {k n : Nat} (hk : k < l) (hp : P k) (h : gInv w P l B (k + 1) n X) : gInv w P l B k (n - 1) (sh w (k * w) ((n - 1) * w) X) := by
  obtain ⟨h1, h2, h3⟩ := h
  have e := cnt_t hp
  have b := cnt_b P (show k + 1 ≤ l from hk)
  have m : (k + 1) * w = k * w + w := Nat.succ_mul k w
  refine ⟨by omega, fun q hq => ?_, fun i hi hl hpi q hq => ?_⟩
  · rw [sh_out (Or.inl hq)]
    exact h2 q (by omega)
  · have ei : i ≠ k := fun z => hpi (by rw [z]; exact hp)
    have b2 := cnt_b P (show k + 1 ≤ i by omega)
    have b3 := cnt_lt hl hpi
    have r1 : k * w ≤ (k + (cnt P i - cnt P k)) * w := Nat.mul_le_mul_right w (by omega)
    have r2 : (k + (cnt P i - cnt P k)) * w + q < (n - 1) * w := rowin (by omega) hq
    have := h3 i (by omega) hl hpi q hq
    rw [show k + 1 + (cnt P i - cnt P (k + 1)) = (k + (cnt P i - cnt P k)) + 1 by omega, Nat.succ_mul] at this
    rw [sh_in (by omega) r2, ← this]
    congr 1
    omega
theorem gInv_n {w : Nat} {P : Nat → Prop} [DecidablePred P] {l : Nat} {B X : Nat → Int32} {k n : Nat} (hk : k ≤ l) (h : gInv w P l B k n X) : k ≤ n ∧ n ≤ l := by
  have b := cnt_b P hk
  have := h.1
  omega
/-- forwards: the rows before k are looked at -/
def mInv (w : Nat) (P : Nat → Prop) [DecidablePred P] (mB : Nat → Int32) (k : Nat) (X : Nat → Int32) : Prop := (∀ q, k * w ≤ q → X q = mB q) ∧ ∀ i, i < k → ¬ P i → ∀ q, q < w → X (cnt P i * w + q) = mB (i * w + q)
theorem mInv_start (w : Nat) (P : Nat → Prop) [DecidablePred P] (mB : Nat → Int32) : mInv w P mB 0 mB := ⟨fun _ _ => rfl, fun i h => absurd h (Nat.not_lt_zero i)⟩
theorem mInv_skip {w : Nat} {P : Nat → Prop} [DecidablePred P] {mB X : Nat → Int32} {k : Nat} (hp : P k) (h : mInv w P mB k X) : mInv w P mB (k + 1) X := by
  obtain ⟨h2, h3⟩ := h
  have m : (k + 1) * w = k * w + w := Nat.succ_mul k w
  refine ⟨fun q hq => h2 q (by omega), fun i hi hpi q hq => ?_⟩
  exact h3 i (by
    have : i ≠ k := fun z => hpi (by rw [z]; exact hp)
    omega) hpi q hq
theorem mInv_keep {w : Nat} {P : Nat → Prop} [DecidablePred P] {mB X Y : Nat → Int32} {k : Nat} (hp : ¬ P k) (h : mInv w P mB k X) (hin : ∀ q, q < w → Y (cnt P k * w + q) = X (k * w + q)) (hout : ∀ r, (r < cnt P k * w ∨ cnt P k * w + w ≤ r) → Y r = X r) : mInv w P mB (k + 1) Y := by
  obtain ⟨h2, h3⟩ := h
  have m : (k + 1) * w = k * w + w := Nat.succ_mul k w
  have c := (cnt_b P (show 0 ≤ k by omega)).2
  rw [cnt_0] at c
  have cw : cnt P k * w ≤ k * w := Nat.mul_le_mul_right w (by omega)
  refine ⟨fun q hq => ?_, fun i hi hpi q hq => ?_⟩
  · rw [hout q (Or.inr (by omega))]
    exact h2 q (by omega)
  · by_cases e : i = k
    · subst e
      rw [hin q hq]
      exact h2 _ (by omega)
    · have := rowin (w := w) (cnt_lt (P := P) (show i < k by omega) hpi) hq
      rw [hout _ (Or.inl this)]
      exact h3 i (by omega) hpi q hq
theorem nm1 (k : Nat) : nI k + (-1) = nI k - 1 := by
  cases k with
  | zero => rfl
  | succ k => rw [nI_m1, nI_pred]
theorem forgD (x1 : Int32) {l : Nat} (hl : l ≤ 6) (B : Nat → Int32) : ∀ (n k m : Nat) (X : Nat → Int32), k ≤ l → k < n → gInv 5 (fun i => B (i * 5 + 0) = x1) l B k m X → ∃ X2, FX2_forgetDomain_10 x1 n (nI m) X (nI k - 1) = some (nI (cnt (fun i => B (i * 5 + 0) = x1) l), X2) ∧ gInv 5 (fun i => B (i * 5 + 0) = x1) l B 0 (cnt (fun i => B (i * 5 + 0) = x1) l) X2 := by
  intro n
  induction n with
  | zero => intro k m X _ h; omega
  | succ n ih =>
    intro k m X hk hn hI
    cases k with
    | zero =>
      have e := hI.1
      rw [cnt_0] at e
      have e2 : m = cnt (fun i => B (i * 5 + 0) = x1) l := by omega
      subst e2
      refine ⟨X, ?_, hI⟩
      rw [FX2_forgetDomain_10, if_pos (by decide)]
    | succ k =>
      have b := gInv_n hk hI
      have ex : ∀ q, q < 5 → X (k * 5 + q) = B (k * 5 + q) := fun q hq => hI.2.1 _ (by omega)
      have cc : ∀ q, q < 5 → FX1_cell 5 30 (nI k) (nI q) (nI m) X = some (B (k * 5 + q)) := fun q hq => by
        have := cell_in (w := 5) (len := 30) (r := k) (k := q) (n := m) (by omega) hq (by omega) (by omega) (by omega) (by omega) X
        rw [ex q hq] at this
        exact this
      have rr : FX1_remove 5 30 (nI k) (nI m) X = some (nI (m - 1), sh 5 (k * 5) ((m - 1) * 5) X) := remove_eq (w := 5) (len := 30) (r := k) (n := m) (by omega) (by omega) (by omega) (by omega) X
      have c0 : FX1_cell 5 30 (nI k) 0 (nI m) X = some (B (k * 5 + 0)) := cc 0 (by omega)
      rw [FX2_forgetDomain_10, nI_pred, if_neg (nI_pos (by omega)), c0, bd1_e]
      by_cases h0 : B (k * 5 + 0) = x1
      · rw [if_pos h0, rr, bd2_e, nm1]
        exact ih k (m - 1) _ (by omega) (by omega) (gInv_del (by omega) h0 hI)
      · rw [if_neg h0, nm1]
        exact ih k m X (by omega) (by omega) (gInv_keep (by omega) h0 hI)
theorem forgC (x1 : Int32) {l : Nat} (hl : l ≤ 3) (B : Nat → Int32) : ∀ (n k m : Nat) (X : Nat → Int32), k ≤ l → k < n → gInv 3 (fun i => B (i * 3 + 0) = x1) l B k m X → ∃ X2, FX2_forgetContext_10 x1 n (nI m) X (nI k - 1) = some (nI (cnt (fun i => B (i * 3 + 0) = x1) l), X2) ∧ gInv 3 (fun i => B (i * 3 + 0) = x1) l B 0 (cnt (fun i => B (i * 3 + 0) = x1) l) X2 := by
  intro n
  induction n with
  | zero => intro k m X _ h; omega
  | succ n ih =>
    intro k m X hk hn hI
    cases k with
    | zero =>
      have e := hI.1
      rw [cnt_0] at e
      have e2 : m = cnt (fun i => B (i * 3 + 0) = x1) l := by omega
      subst e2
      refine ⟨X, ?_, hI⟩
      rw [FX2_forgetContext_10, if_pos (by decide)]
    | succ k =>
      have b := gInv_n hk hI
      have ex : ∀ q, q < 3 → X (k * 3 + q) = B (k * 3 + q) := fun q hq => hI.2.1 _ (by omega)
      have cc : ∀ q, q < 3 → FX1_cell 3 9 (nI k) (nI q) (nI m) X = some (B (k * 3 + q)) := fun q hq => by
        have := cell_in (w := 3) (len := 9) (r := k) (k := q) (n := m) (by omega) hq (by omega) (by omega) (by omega) (by omega) X
        rw [ex q hq] at this
        exact this
      have rr : FX1_remove 3 9 (nI k) (nI m) X = some (nI (m - 1), sh 3 (k * 3) ((m - 1) * 3) X) := remove_eq (w := 3) (len := 9) (r := k) (n := m) (by omega) (by omega) (by omega) (by omega) X
      have c0 : FX1_cell 3 9 (nI k) 0 (nI m) X = some (B (k * 3 + 0)) := cc 0 (by omega)
      rw [FX2_forgetContext_10, nI_pred, if_neg (nI_pos (by omega)), c0, bd1_e]
      by_cases h0 : B (k * 3 + 0) = x1
      · rw [if_pos h0, rr, bd2_e, nm1]
        exact ih k (m - 1) _ (by omega) (by omega) (gInv_del (by omega) h0 hI)
      · rw [if_neg h0, nm1]
        exact ih k m X (by omega) (by omega) (gInv_keep (by omega) h0 hI)
theorem forgP (x1 x2 : Int32) {l : Nat} (hl : l ≤ 6) (B : Nat → Int32) : ∀ (n k m : Nat) (X : Nat → Int32), k ≤ l → k < n → gInv 5 (fun i => B (i * 5 + 0) = x1 ∧ B (i * 5 + 2) = (x2 >>> (((4 : Int32) * B (i * 5 + 1)) &&& 31))) l B k m X → ∃ X2, FX2_forgetPage_10 x1 x2 n (nI m) X (nI k - 1) = some (nI (cnt (fun i => B (i * 5 + 0) = x1 ∧ B (i * 5 + 2) = (x2 >>> (((4 : Int32) * B (i * 5 + 1)) &&& 31))) l), X2) ∧ gInv 5 (fun i => B (i * 5 + 0) = x1 ∧ B (i * 5 + 2) = (x2 >>> (((4 : Int32) * B (i * 5 + 1)) &&& 31))) l B 0 (cnt (fun i => B (i * 5 + 0) = x1 ∧ B (i * 5 + 2) = (x2 >>> (((4 : Int32) * B (i * 5 + 1)) &&& 31))) l) X2 := by
  intro n
  induction n with
  | zero => intro k m X _ h; omega
  | succ n ih =>
    intro k m X hk hn hI
    cases k with
    | zero =>
      have e := hI.1
      rw [cnt_0] at e
      have e2 : m = cnt (fun i => B (i * 5 + 0) = x1 ∧ B (i * 5 + 2) = (x2 >>> (((4 : Int32) * B (i * 5 + 1)) &&& 31))) l := by omega
      subst e2
      refine ⟨X, ?_, hI⟩
      rw [FX2_forgetPage_10, if_pos (by decide)]
    | succ k =>
      have b := gInv_n hk hI
      have ex : ∀ q, q < 5 → X (k * 5 + q) = B (k * 5 + q) := fun q hq => hI.2.1 _ (by omega)
      have cc : ∀ q, q < 5 → FX1_cell 5 30 (nI k) (nI q) (nI m) X = some (B (k * 5 + q)) := fun q hq => by
        have := cell_in (w := 5) (len := 30) (r := k) (k := q) (n := m) (by omega) hq (by omega) (by omega) (by omega) (by omega) X
        rw [ex q hq] at this
        exact this
      have rr : FX1_remove 5 30 (nI k) (nI m) X = some (nI (m - 1), sh 5 (k * 5) ((m - 1) * 5) X) := remove_eq (w := 5) (len := 30) (r := k) (n := m) (by omega) (by omega) (by omega) (by omega) X
      have c0 : FX1_cell 5 30 (nI k) 0 (nI m) X = some (B (k * 5 + 0)) := cc 0 (by omega)
      rw [FX2_forgetPage_10, nI_pred, if_neg (nI_pos (by omega)), c0, bd1_e]
      have c1 : FX1_cell 5 30 (nI k) 1 (nI m) X = some (B (k * 5 + 1)) := cc 1 (by omega)
      have c2 : FX1_cell 5 30 (nI k) 2 (nI m) X = some (B (k * 5 + 2)) := cc 2 (by omega)
      unfold FX2_isForPage
      rw [c1, c2, bd1_e, bd1_e]
      by_cases h0 : B (k * 5 + 0) = x1
      · rw [if_pos h0]
        by_cases h2 : B (k * 5 + 2) = (x2 >>> (((4 : Int32) * B (k * 5 + 1)) &&& 31))
        · rw [if_pos h2, bd1_e, if_neg n10, rr, bd2_e, nm1]
          exact ih k (m - 1) _ (by omega) (by omega) (gInv_del (by omega) ⟨h0, h2⟩ hI)
        · rw [if_neg h2, bd1_e, if_pos rfl, nm1]
          exact ih k m X (by omega) (by omega) (gInv_keep (by omega) (fun q => h2 q.2) hI)
      · rw [if_neg h0, nm1]
        exact ih k m X (by omega) (by omega) (gInv_keep (by omega) (fun q => h0 q.1) hI)
def cp5 (X : Nat → Int32) (v k : Nat) : Nat → Int32 := upd (upd (upd (upd (upd X (v * 5 + 0) (X (k * 5 + 0))) (v * 5 + 1) ((upd X (v * 5 + 0) (X (k * 5 + 0))) (k * 5 + 1))) (v * 5 + 2) ((upd (upd X (v * 5 + 0) (X (k * 5 + 0))) (v * 5 + 1) ((upd X (v * 5 + 0) (X (k * 5 + 0))) (k * 5 + 1))) (k * 5 + 2))) (v * 5 + 3) ((upd (upd (upd X (v * 5 + 0) (X (k * 5 + 0))) (v * 5 + 1) ((upd X (v * 5 + 0) (X (k * 5 + 0))) (k * 5 + 1))) (v * 5 + 2) ((upd (upd X (v * 5 + 0) (X (k * 5 + 0))) (v * 5 + 1) ((upd X (v * 5 + 0) (X (k * 5 + 0))) (k * 5 + 1))) (k * 5 + 2))) (k * 5 + 3))) (v * 5 + 4) ((upd (upd (upd (upd X (v * 5 + 0) (X (k * 5 + 0))) (v * 5 + 1) ((upd X (v * 5 + 0) (X (k * 5 + 0))) (k * 5 + 1))) (v * 5 + 2) ((upd (upd X (v * 5 + 0) (X (k * 5 + 0))) (v * 5 + 1) ((upd X (v * 5 + 0) (X (k * 5 + 0))) (k * 5 + 1))) (k * 5 + 2))) (v * 5 + 3) ((upd (upd (upd X (v * 5 + 0) (X (k * 5 + 0))) (v * 5 + 1) ((upd X (v * 5 + 0) (X (k * 5 + 0))) (k * 5 + 1))) (v * 5 + 2) ((upd (upd X (v * 5 + 0) (X (k * 5 + 0))) (v * 5 + 1) ((upd X (v * 5 + 0) (X (k * 5 + 0))) (k * 5 + 1))) (k * 5 + 2))) (k * 5 + 3))) (k * 5 + 4))
def cp4 (X : Nat → Int32) (v k : Nat) : Nat → Int32 := upd (upd (upd (upd X (v * 4 + 0) (X (k * 4 + 0))) (v * 4 + 1) ((upd X (v * 4 + 0) (X (k * 4 + 0))) (k * 4 + 1))) (v * 4 + 2) ((upd (upd X (v * 4 + 0) (X (k * 4 + 0))) (v * 4 + 1) ((upd X (v * 4 + 0) (X (k * 4 + 0))) (k * 4 + 1))) (k * 4 + 2))) (v * 4 + 3) ((upd (upd (upd X (v * 4 + 0) (X (k * 4 + 0))) (v * 4 + 1) ((upd X (v * 4 + 0) (X (k * 4 + 0))) (k * 4 + 1))) (v * 4 + 2) ((upd (upd X (v * 4 + 0) (X (k * 4 + 0))) (v * 4 + 1) ((upd X (v * 4 + 0) (X (k * 4 + 0))) (k * 4 + 1))) (k * 4 + 2))) (k * 4 + 3))
theorem cp5_out {X : Nat → Int32} {v k r : Nat} (h : r < v * 5 ∨ v * 5 + 5 ≤ r) : cp5 X v k r = X r := by
  unfold cp5
  rw [upd_n _ _ (by omega), upd_n _ _ (by omega), upd_n _ _ (by omega), upd_n _ _ (by omega), upd_n _ _ (by omega)]
theorem cp5_in {X : Nat → Int32} {v k : Nat} : ∀ q, q < 5 → cp5 X v k (v * 5 + q) = X (k * 5 + q) := by
  intro q hq
  unfold cp5
  rcases (show q = 0 ∨ q = 1 ∨ q = 2 ∨ q = 3 ∨ q = 4 by omega) with rfl | rfl | rfl | rfl | rfl
  · rw [upd_n _ _ (by omega), upd_n _ _ (by omega), upd_n _ _ (by omega), upd_n _ _ (by omega), upd_s]
  · rw [upd_n _ _ (by omega), upd_n _ _ (by omega), upd_n _ _ (by omega), upd_s, upd_n _ _ (by omega)]
  · rw [upd_n _ _ (by omega), upd_n _ _ (by omega), upd_s, upd_n _ _ (by omega), upd_n _ _ (by omega)]
  · rw [upd_n _ _ (by omega), upd_s, upd_n _ _ (by omega), upd_n _ _ (by omega), upd_n _ _ (by omega)]
  · rw [upd_s, upd_n _ _ (by omega), upd_n _ _ (by omega), upd_n _ _ (by omega), upd_n _ _ (by omega)]
theorem cp4_out {X : Nat → Int32} {v k r : Nat} (h : r < v * 4 ∨ v * 4 + 4 ≤ r) : cp4 X v k r = X r := by
  unfold cp4
  rw [upd_n _ _ (by omega), upd_n _ _ (by omega), upd_n _ _ (by omega), upd_n _ _ (by omega)]
theorem cp4_in {X : Nat → Int32} {v k : Nat} : ∀ q, q < 4 → cp4 X v k (v * 4 + q) = X (k * 4 + q) := by
  intro q hq
  unfold cp4
  rcases (show q = 0 ∨ q = 1 ∨ q = 2 ∨ q = 3 by omega) with rfl | rfl | rfl | rfl
  · rw [upd_n _ _ (by omega), upd_n _ _ (by omega), upd_n _ _ (by omega), upd_s]
  · rw [upd_n _ _ (by omega), upd_n _ _ (by omega), upd_s, upd_n _ _ (by omega)]
  · rw [upd_n _ _ (by omega), upd_s, upd_n _ _ (by omega), upd_n _ _ (by omega)]
  · rw [upd_s, upd_n _ _ (by omega), upd_n _ _ (by omega), upd_n _ _ (by omega)]

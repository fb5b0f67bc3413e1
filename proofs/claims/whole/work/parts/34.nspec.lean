/-! noses -/
def nf (D : Nat → Nat → Nat) (nc : Nat → Nat) (np : Nat → Int32) (k : Nat) : Nat → Bool
  | 0 => true
  | j + 1 => nf D nc np k j && decide (WX D (k / 9 % 3) (k / 27) (k % 9 + 1) (nc j) = np j)
def fit (D : Nat → Nat → Nat) (nc : Nat → Nat) (np : Nat → Int32) (nn k : Nat) : Bool := decide (D 0 (k / 27) = 0) && nf D nc np k nn
theorem nf_f {D : Nat → Nat → Nat} {nc : Nat → Nat} {np : Nat → Int32} {k j : Nat} (h : ¬ WX D (k / 9 % 3) (k / 27) (k % 9 + 1) (nc j) = np j) : ∀ nn, j < nn → nf D nc np k nn = false
  | 0, hj => absurd hj (Nat.not_lt_zero j)
  | nn + 1, hj => by
    show (nf D nc np k nn && decide (WX D (k / 9 % 3) (k / 27) (k % 9 + 1) (nc nn) = np nn)) = false
    by_cases e : j = nn
    · subst e
      simp [h]
    · rw [nf_f h nn (by omega)]
      rfl
theorem fit_t {D : Nat → Nat → Nat} {nc : Nat → Nat} {np : Nat → Int32} {nn k : Nat} (h1 : D 0 (k / 27) = 0) (h2 : nf D nc np k nn = true) : fit D nc np nn k = true := by
  unfold fit; simp [h1, h2]
theorem fit_f1 {D : Nat → Nat → Nat} {nc : Nat → Nat} {np : Nat → Int32} {nn k : Nat} (h1 : ¬ D 0 (k / 27) = 0) : ¬ fit D nc np nn k = true := by
  unfold fit; simp [h1]
theorem fit_f2 {D : Nat → Nat → Nat} {nc : Nat → Nat} {np : Nat → Int32} {nn k : Nat} (h2 : nf D nc np k nn = false) : ¬ fit D nc np nn k = true := by
  unfold fit; simp [h2]
def cn (P : Nat → Bool) : Nat → Nat
  | 0 => 0
  | k + 1 => cn P k + (if P k = true then 1 else 0)
theorem cn_le (P : Nat → Bool) : ∀ k, cn P k ≤ k
  | 0 => Nat.le_refl 0
  | k + 1 => by
    unfold cn
    have := cn_le P k
    split <;> omega
def fl (P : Nat → Bool) : Nat → Nat → Int32
  | 0, _ => -1
  | d + 1, k => if P k = true then nI k else fl P d (k + 1)
theorem nI_prd (c : Nat) : nI (c + 1) + (-1) = nI c := by
  rw [← nI_add c 1]
  rw [Int32.add_assoc]
  exact Int32.add_zero _
/-- how many of the first k numbers that fit leave a finding -/
def tl (P : Nat → Bool) (f : Nat → Nat → Nat) (i : Nat) : Nat → Nat
  | 0 => 0
  | k + 1 => tl P f i k + (if P k = true ∧ f k (i / 4) = i % 4 then 1 else 0)
theorem tl_le (P : Nat → Bool) (f : Nat → Nat → Nat) (i : Nat) : ∀ k, tl P f i k ≤ k
  | 0 => Nat.le_refl 0
  | k + 1 => by
    unfold tl
    have := tl_le P f i k
    split <;> omega
theorem tl_sw (P : Nat → Bool) (f : Nat → Nat → Nat) (hf : ∀ k c, f k c < 4) (c q : Nat) (hq : q < 4) : ∀ k, tl P (fun k c => if f k c = 0 then 3 else f k c - 1) (4 * c + q) k = tl P f (4 * c + (if q = 3 then 0 else q + 1)) k
  | 0 => rfl
  | k + 1 => by
    have h := hf k c
    have e1 : (4 * c + q) / 4 = c := by omega
    have e2 : (4 * c + q) % 4 = q := by omega
    have e3 : (4 * c + (if q = 3 then 0 else q + 1)) / 4 = c := by split <;> omega
    have e4 : (4 * c + (if q = 3 then 0 else q + 1)) % 4 = if q = 3 then 0 else q + 1 := by split <;> omega
    show tl P _ _ k + (if P k = true ∧ (if f k ((4 * c + q) / 4) = 0 then 3 else f k ((4 * c + q) / 4) - 1) = (4 * c + q) % 4 then 1 else 0) = tl P f _ k + (if P k = true ∧ f k ((4 * c + (if q = 3 then 0 else q + 1)) / 4) = (4 * c + (if q = 3 then 0 else q + 1)) % 4 then 1 else 0)
    rw [tl_sw P f hf c q hq k, e1, e2, e3, e4]
    have e : ((if f k c = 0 then 3 else f k c - 1) = q) ↔ (f k c = if q = 3 then 0 else q + 1) := by
      by_cases h0 : f k c = 0
      · rw [if_pos h0, h0]
        by_cases h3 : q = 3
        · rw [if_pos h3]; omega
        · rw [if_neg h3]; omega
      · rw [if_neg h0]
        by_cases h3 : q = 3
        · rw [if_pos h3]; omega
        · rw [if_neg h3]; omega
    simp only [e]
def mx (a : Nat → Nat) : Nat → Nat
  | 0 => 0
  | k + 1 => if mx a k < a k then a k else mx a k
theorem mx_le {a : Nat → Nat} {B : Nat} (h : ∀ k, a k ≤ B) : ∀ k, mx a k ≤ B
  | 0 => Nat.zero_le B
  | k + 1 => by
    show (if mx a k < a k then a k else mx a k) ≤ B
    have := mx_le h k
    have := h k
    split <;> assumption
theorem mx_s (a : Nat → Nat) (k : Nat) : mx a (k + 1) = max (mx a k) (a k) := by
  show (if mx a k < a k then a k else mx a k) = _
  split <;> omega
theorem mx_sw {a b : Nat → Nat} (h0 : b 0 = a 1) (h1 : b 1 = a 2) (h2 : b 2 = a 3) (h3 : b 3 = a 0) : mx b 4 = mx a 4 := by
  have e (f : Nat → Nat) : mx f 4 = max (max (max (max 0 (f 0)) (f 1)) (f 2)) (f 3) := by
    rw [mx_s f 3, mx_s f 2, mx_s f 1, mx_s f 0]
    rfl
  rw [e a, e b, h0, h1, h2, h3]
  omega
theorem am_max {x y : Nat} (hx : x < 2 ^ 31) (hy : y < 2 ^ 31) : (if nI x < nI y then nI y else nI x) = nI (if x < y then y else x) := by
  by_cases h : x < y
  · rw [if_pos h, if_pos ((nI_ltI (a := x) (b := y) hx hy).mpr h)]
  · rw [if_neg h, if_neg (fun q => h ((nI_ltI (a := x) (b := y) hx hy).mp q))]
def bf (w : Nat → Nat) (l : Nat) : Nat → Nat
  | 0 => l
  | c + 1 => if w c < bf w l c then w c else bf w l c
def bb (w : Nat → Nat) (l : Nat) : Nat → Int32
  | 0 => -1
  | c + 1 => if w c < bf w l c then nI c else bb w l c
theorem bf_le (w : Nat → Nat) (l : Nat) : ∀ c, bf w l c ≤ l
  | 0 => Nat.le_refl l
  | c + 1 => by
    show (if w c < bf w l c then w c else bf w l c) ≤ l
    have := bf_le w l c
    split <;> omega
theorem bb_eq {w v : Nat → Nat} {l l' : Nat} (hw : ∀ c, w c = v c) (h1 : w 0 < l) (h2 : v 0 < l') : ∀ c, bf w l (c + 1) = bf v l' (c + 1) ∧ bb w l (c + 1) = bb v l' (c + 1)
  | 0 => by
    constructor
    · show (if w 0 < l then w 0 else l) = (if v 0 < l' then v 0 else l')
      rw [if_pos h1, if_pos h2, hw 0]
    · show (if w 0 < l then nI 0 else -1) = (if v 0 < l' then nI 0 else -1)
      rw [if_pos h1, if_pos h2]
  | c + 1 => by
    obtain ⟨e1, e2⟩ := bb_eq hw h1 h2 c
    constructor
    · show (if w (c + 1) < bf w l (c + 1) then w (c + 1) else bf w l (c + 1)) = (if v (c + 1) < bf v l' (c + 1) then v (c + 1) else bf v l' (c + 1))
      rw [e1, hw]
    · show (if w (c + 1) < bf w l (c + 1) then nI (c + 1) else bb w l (c + 1)) = (if v (c + 1) < bf v l' (c + 1) then nI (c + 1) else bb v l' (c + 1))
      rw [e1, e2, hw]
/-- whose a cell is, as one of four -/
def ix (v : Int32) : Nat := if v = -1 then 0 else v.toInt.toNat + 1
theorem ix_m : ix (-1) = 0 := rfl
theorem ix_n {p : Nat} (h : p < 2 ^ 31) : ix (nI p) = p + 1 := by
  unfold ix
  rw [if_neg (nI_m1 h), nI_toInt h]
  omega

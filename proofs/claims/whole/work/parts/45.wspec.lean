/-! walls -/
def on_n (b : Nat) : Nat → Nat
  | 0 => 0
  | c + 1 => on_n b c + b / 2 ^ c % 2
def on (b : Nat) : Nat := on_n b 8
theorem on_n_le (b : Nat) : ∀ c, on_n b c ≤ c
  | 0 => Nat.le_refl 0
  | c + 1 => by
    show on_n b c + b / 2 ^ c % 2 ≤ c + 1
    have := on_n_le b c
    have : b / 2 ^ c % 2 < 2 := Nat.mod_lt _ (by decide)
    omega
set_option maxRecDepth 40000 in
theorem wl_bt : ∀ b, b < 256 → ∀ c, c < 8 → (nI b >>> (nI c &&& 31)) &&& 1 = nI (b / 2 ^ c % 2) := by decide +kernel
theorem sp_b_n {b t : Nat} (hb : b < 256) (ht : t < 8) : sp_b (nI b) t = decide (b / 2 ^ t % 2 = 1) := by
  unfold sp_b
  rw [wl_bt b hb t ht]
  have h : b / 2 ^ t % 2 < 2 := Nat.mod_lt _ (by decide)
  rcases (show b / 2 ^ t % 2 = 0 ∨ b / 2 ^ t % 2 = 1 by omega) with e | e <;> rw [e] <;> decide
def wW (D : Nat → Nat → Nat) (b : Nat) : Nat → Nat → Nat := va_up D 0 (fun j => if b / 2 ^ j % 2 = 1 then 1 else D 0 j)
theorem wl_E {g : Nat → Nat} {b fd ea wi c w : Nat} (hb : b < 256) (hc : c < 8) : sp_E (fun j => if b / 2 ^ j % 2 = 1 then 1 else g j) no_b fd ea wi c w = sp_E g (sp_b (nI b)) fd ea wi c w := by
  unfold sp_E
  cases h : sp_to c w with
  | none => rfl
  | some t =>
    have ht := sp_to_lt hc h
    simp only [sp_b_n hb ht, no_b]
    by_cases e : b / 2 ^ t % 2 = 1
    · simp [e]
    · simp [e]
theorem AM_wW {D : Nat → Nat → Nat} {b : Nat} (hb : b < 256) : AM (wW D b) = so_am (D 0) (sp_b (nI b)) (D 7 0) (D 7 2) (D 7 3) (D 7 4) (D 1) (D 3) (D 4) (D 5) (D 6) := by
  funext s
  unfold AM so_am
  show (if D 5 s = 1 ∧ so_at (D 1 s) (D 7 3) (D 7 4) = true then sp_A (sp_E (fun j => if b / 2 ^ j % 2 = 1 then 1 else D 0 j) no_b (D 7 0) (so_ea (D 1 s)) (D 7 2)) (D 3 s) (so_fo (D 1 s) (D 4 s) (D 6 s)) else fun _ => 0) = _
  by_cases h : D 5 s = 1 ∧ so_at (D 1 s) (D 7 3) (D 7 4) = true
  · rw [if_pos h, if_pos h, sp_A_congr (fun c' hc' w => wl_E hb hc')]
  · rw [if_neg h, if_neg h]
def oI : Option Nat → Int32
  | none => -1
  | some x => nI x
/-- the cells that may be walls -/
def fr1 (D : Nat → Nat → Nat) (c : Nat) : Nat → Int32
  | 0 => 0
  | k + 1 => if k = c ∨ D 0 k = 1 then fr1 D c k else fr1 D c k ||| (1 <<< (nI k &&& 31))
def fr2 (D : Nat → Nat → Nat) (c : Nat) : Nat → Int32
  | 0 => fr1 D c 8
  | s + 1 => fr2 D c s &&& ((1 <<< (nI (D 3 s) &&& 31)) ^^^ (-1))
def wQ (D : Nat → Nat → Nat) (c b : Nat) : Bool := decide (nI b &&& (fr2 D c (D 7 1) ^^^ (-1)) = 0)
def wF (b : Nat) : Option Nat → Bool
  | none => true
  | some x => decide (on b < on x)
def wb (D : Nat → Nat → Nat) (c p : Nat) : Nat → Option Nat
  | 0 => none
  | b + 1 => if (wQ D c b && (wF b (wb D c p b) && !decide (WH (wW D b) c = nI p))) = true then some b else wb D c p b
theorem wb_lt {D : Nat → Nat → Nat} {c p : Nat} : ∀ b x, wb D c p b = some x → x < b
  | 0, x, h => by cases h
  | b + 1, x, h => by
    have h : (if (wQ D c b && (wF b (wb D c p b) && !decide (WH (wW D b) c = nI p))) = true then some b else wb D c p b) = some x := h
    split at h
    · cases h; omega
    · have := wb_lt b x h; omega
theorem wb_y {D : Nat → Nat → Nat} {c p b : Nat} (h1 : wQ D c b = true) (h2 : wF b (wb D c p b) = true) (h3 : ¬ WH (wW D b) c = nI p) : wb D c p (b + 1) = some b := if_pos (by rw [h1, h2]; simp [h3])
theorem wb_n1 {D : Nat → Nat → Nat} {c p b : Nat} (h1 : ¬ wQ D c b = true) : wb D c p (b + 1) = wb D c p b := if_neg (fun q => by rw [Bool.and_eq_true] at q; exact h1 q.1)
theorem wb_n2 {D : Nat → Nat → Nat} {c p b : Nat} (h1 : ¬ wF b (wb D c p b) = true) : wb D c p (b + 1) = wb D c p b := if_neg (fun q => by rw [Bool.and_eq_true, Bool.and_eq_true] at q; exact h1 q.2.1)
theorem wb_n3 {D : Nat → Nat → Nat} {c p b : Nat} (h1 : WH (wW D b) c = nI p) : wb D c p (b + 1) = wb D c p b := if_neg (fun q => by rw [Bool.and_eq_true, Bool.and_eq_true] at q; have := q.2.2; simp [h1] at this)

/-! how long a cell holds -/
def EHn (D : Nat → Nat → Nat) : Nat → Nat → Nat → Nat
  | 0 => D
  | h + 1 => EH (EHn D h)
theorem EHn_71 (D : Nat → Nat → Nat) : ∀ h, EHn D h 7 1 = D 7 1
  | 0 => rfl
  | h + 1 => EHn_71 D h
theorem EHn_70 (D : Nat → Nat → Nat) : ∀ h, EHn D h 7 0 = D 7 0
  | 0 => rfl
  | h + 1 => EHn_70 D h
theorem BD_n {D : Nat → Nat → Nat} : ∀ (h k : Nat), BD D (k + h) → BD (EHn D h) k
  | 0, _, b => b
  | h + 1, k, b => BD_EH (BD_n h (k + 1) (by rw [show k + 1 + h = k + (h + 1) by omega]; exact b))
def ru (W : Nat → Bool) : Nat → Nat
  | 0 => 0
  | h + 1 => if ru W h = h ∧ W h = true then h + 1 else ru W h
theorem ru_le (W : Nat → Bool) : ∀ h, ru W h ≤ h
  | 0 => Nat.le_refl 0
  | h + 1 => by
    show (if ru W h = h ∧ W h = true then h + 1 else ru W h) ≤ h + 1
    have := ru_le W h
    split <;> omega
theorem ru_s {W : Nat → Bool} {h : Nat} (e : ru W h = h) (w : W h = true) : ru W (h + 1) = h + 1 := if_pos ⟨e, w⟩
theorem ru_x {W : Nat → Bool} {h : Nat} (e : ru W h = h) (w : ¬ W h = true) : ∀ d, ru W (h + d) = h
  | 0 => e
  | d + 1 => by
    show (if ru W (h + d) = h + d ∧ W (h + d) = true then h + d + 1 else ru W (h + d)) = h
    rw [ru_x e w d]
    rw [if_neg (fun q => ?_)]
    have h0 : d = 0 := by omega
    subst h0
    exact w q.2
def hW (D : Nat → Nat → Nat) (c : Nat) (v : Int32) : Nat → Bool := fun h => decide (WH (EHn D h) c = v)
def rv (D : Nat → Nat → Nat) (c p : Nat) : Nat := ru (hW D c (nI p)) 24
theorem rv_le (D : Nat → Nat → Nat) (c p : Nat) : rv D c p ≤ 24 := ru_le _ 24
theorem rv_0 {D : Nat → Nat → Nat} {c p : Nat} (h : ¬ WH D c = nI p) : rv D c p = 0 :=
  ru_x (W := hW D c (nI p)) (h := 0) rfl (fun q => h (of_decide_eq_true q)) 24

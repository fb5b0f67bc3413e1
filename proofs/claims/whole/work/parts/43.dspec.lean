/-! days: seeds -/
def nS (s : Nat) : Nat := (1103515245 * s + 12345) % 2147483648
theorem nS_lt (s : Nat) : nS s < 2 ^ 31 := Nat.mod_lt _ (by decide)
theorem dl_n (s : Nat) (h : s < 2 ^ 31) : (1103515245 : Int64) * (nI s).toInt64 + 12345 = Int64.ofNat (1103515245 * s + 12345) := by
  have e : (nI s).toInt64 = Int64.ofNat s := by
    apply Int64.toInt_inj.mp
    rw [Int32.toInt_toInt64, nI_toInt h, Int64.toInt_ofNat_of_lt (by omega)]
  rw [e, Int64.ofNat_add, Int64.ofNat_mul]
  rfl
theorem dl_div (a b : Nat) (ha : a < 2 ^ 63) (hb : b < 2 ^ 63) : Int64.ofNat a / Int64.ofNat b = Int64.ofNat (a / b) := by
  have hd : a / b < 2 ^ 63 := Nat.lt_of_le_of_lt (Nat.div_le_self a b) ha
  apply Int64.toInt_inj.mp
  rw [Int64.toInt_div, Int64.toInt_ofNat_of_lt ha, Int64.toInt_ofNat_of_lt hb, Int64.toInt_ofNat_of_lt hd, ← Int.ofNat_tdiv]
  generalize a / b = q at hd ⊢
  exact Int.bmod_eq_of_le (by omega) (by omega)
theorem dl_rem (s : Nat) (h : s < 2 ^ 31) : (((1103515245 : Int64) * (nI s).toInt64 + 12345) - ((1103515245 : Int64) * (nI s).toInt64 + 12345) / 2147483648 * 2147483648).toInt32 = nI (nS s) := by
  rw [dl_n s h]
  have hN : 1103515245 * s + 12345 < 2 ^ 63 := by omega
  rw [show (2147483648 : Int64) = Int64.ofNat 2147483648 from rfl, dl_div _ _ hN (by decide), ← Int64.ofNat_mul, ← Int64.ofNat_sub _ _ (Nat.div_mul_le_self _ _)]
  have e : 1103515245 * s + 12345 - (1103515245 * s + 12345) / 2147483648 * 2147483648 = nS s := by
    unfold nS
    have := Nat.div_add_mod' (1103515245 * s + 12345) 2147483648
    omega
  rw [e]
  exact Int64.toInt32_ofNat
theorem dl_and (s : Nat) (h : s < 2 ^ 31) : (((1103515245 : Int64) * (nI s).toInt64 + 12345) &&& 2147483647).toInt32 = nI (nS s) := by
  rw [dl_n s h]
  have e3 (a b : Nat) : Int64.ofNat a &&& Int64.ofNat b = Int64.ofNat (a &&& b) := by
    apply Int64.toBitVec_inj.mp
    simp
  rw [show (2147483647 : Int64) = Int64.ofNat (2 ^ 31 - 1) from rfl, e3, Nat.and_two_pow_sub_one_eq_mod]
  exact Int64.toInt32_ofNat
def dW (D : Nat → Nat → Nat) (s : Nat) : Nat → Nat → Nat := va_up D 7 (va_up (va_up (D 7) 2 (nS s / 65536 % 5)) 4 (if nS (nS s) / 65536 % 6 = 0 then 1 else 0))
def dS (s : Nat) : Nat → Nat
  | 0 => s
  | h + 1 => nS (nS (dS s h))
def dD (D : Nat → Nat → Nat) (s : Nat) : Nat → Nat → Nat → Nat
  | 0 => D
  | h + 1 => EH (dW (dD D s h) (dS s h))
def dB (D : Nat → Nat → Nat) (s : Nat) : Nat → Nat
  | 0 => 0
  | h + 1 => dB D s h + bd_n (WH (dW (dD D s h) (dS s h))) 16
theorem dB_le (D : Nat → Nat → Nat) (s : Nat) : ∀ h, dB D s h ≤ 16 * h
  | 0 => Nat.le_refl 0
  | h + 1 => by
    show dB D s h + bd_n _ 16 ≤ _
    have := dB_le D s h
    have := bd_n_le (WH (dW (dD D s h) (dS s h))) 16
    omega
theorem dS_lt {s : Nat} (hs : s < 2 ^ 31) : ∀ h, dS s h < 2 ^ 31
  | 0 => hs
  | h + 1 => nS_lt _
theorem dD_71 (D : Nat → Nat → Nat) (s : Nat) : ∀ h, dD D s h 7 1 = D 7 1
  | 0 => rfl
  | h + 1 => dD_71 D s h
theorem BD_dW {D : Nat → Nat → Nat} {s k : Nat} (h : BD D k) : BD (dW D s) k := h
theorem BD_d {D : Nat → Nat → Nat} {s : Nat} : ∀ (h k : Nat), BD D (k + h) → BD (dD D s h) k
  | 0, _, b => b
  | h + 1, k, b => BD_EH (BD_dW (BD_d h (k + 1) (by rw [show k + 1 + h = k + (h + 1) by omega]; exact b)))

/-! one source more -/
def LF (D : Nat → Nat → Nat) (ce sg : Nat) : Nat → Nat := if D 7 4 = 0 then sp_A (sp_E (D 0) no_b (D 7 0) 0 (D 7 2)) ce sg else fun _ => 0
def XT (D : Nat → Nat → Nat) (pa ce sg : Nat) : Nat → Nat → Nat := fun t => if t = 7 then va_up (D 7) 1 (D 7 1 + 1) else if t = 0 then D 0 else va_up (D t) (D 7 1) (if t = 2 then pa else if t = 3 then ce else if t = 4 then sg else if t = 5 then 1 else 0)
def WX (D : Nat → Nat → Nat) (pa ce sg c : Nat) : Int32 := if MO D c < LF D ce sg c then nI pa else WH D c
theorem LF_le {D : Nat → Nat → Nat} {ce sg : Nat} (h : sg ≤ 9) (j : Nat) : LF D ce sg j ≤ 9 := by
  unfold LF
  split
  · exact Nat.le_trans (sp_A_le _ _ _ j) h
  · exact Nat.zero_le 9
theorem st_mo_congr {A B : Nat → Nat → Nat} : ∀ ns, (∀ s, s < ns → A s = B s) → st_mo A ns = st_mo B ns
  | 0, _ => rfl
  | s + 1, h => by
    funext c
    show (if st_mo A s c < A s c then A s c else st_mo A s c) = (if st_mo B s c < B s c then B s c else st_mo B s c)
    rw [st_mo_congr s (fun s' hs => h s' (by omega)), h s (by omega)]
theorem st_wh_congr {A B : Nat → Nat → Nat} {pa pb : Nat → Nat} : ∀ ns, (∀ s, s < ns → A s = B s) → (∀ s, s < ns → pa s = pb s) → st_wh A pa ns = st_wh B pb ns
  | 0, _, _ => rfl
  | s + 1, h, hp => by
    funext c
    show (if st_mo A s c < A s c then nI (pa s) else st_wh A pa s c) = (if st_mo B s c < B s c then nI (pb s) else st_wh B pb s c)
    rw [st_mo_congr s (fun s' hs => h s' (by omega)), h s (by omega), st_wh_congr s (fun s' hs => h s' (by omega)) (fun s' hs => hp s' (by omega)), hp s (by omega)]
theorem XT_ne {D : Nat → Nat → Nat} {pa ce sg t s : Nat} (h7 : t ≠ 7) (hs : s < D 7 1) : XT D pa ce sg t s = D t s := by
  unfold XT
  rw [if_neg h7]
  by_cases h0 : t = 0
  · rw [if_pos h0, h0]
  · rw [if_neg h0, va_up_ne _ _ (by omega)]
theorem AM_XT_lt {D : Nat → Nat → Nat} {pa ce sg s : Nat} (hs : s < D 7 1) : AM (XT D pa ce sg) s = AM D s := by
  unfold AM so_am
  rw [XT_ne (t := 5) (by decide) hs, XT_ne (t := 1) (by decide) hs, XT_ne (t := 3) (by decide) hs, XT_ne (t := 4) (by decide) hs, XT_ne (t := 6) (by decide) hs]
  rfl
theorem AM_XT_eq {D : Nat → Nat → Nat} {pa ce sg : Nat} : AM (XT D pa ce sg) (D 7 1) = LF D ce sg := by
  unfold AM so_am
  have e1 : XT D pa ce sg 1 (D 7 1) = 0 := va_up_self _ _ _
  have e3 : XT D pa ce sg 3 (D 7 1) = ce := va_up_self _ _ _
  have e4 : XT D pa ce sg 4 (D 7 1) = sg := va_up_self _ _ _
  have e5 : XT D pa ce sg 5 (D 7 1) = 1 := va_up_self _ _ _
  have e6 : XT D pa ce sg 6 (D 7 1) = 0 := va_up_self _ _ _
  rw [e1, e3, e4, e5, e6]
  unfold LF
  have e : so_at 0 (XT D pa ce sg 7 3) (XT D pa ce sg 7 4) = (D 7 4 == 0) := by
    show (false || ((D 7 4 == 0) && (true || _))) = _
    simp
  rw [e]
  by_cases h : D 7 4 = 0
  · rw [if_pos ⟨rfl, by simp [h]⟩, if_pos h]
    rfl
  · rw [if_neg (fun q => h (by simpa using q.2)), if_neg h]
theorem WH_XT {D : Nat → Nat → Nat} {pa ce sg : Nat} (c : Nat) : WH (XT D pa ce sg) c = WX D pa ce sg c := by
  show (if st_mo (AM (XT D pa ce sg)) (D 7 1) c < AM (XT D pa ce sg) (D 7 1) c then nI (XT D pa ce sg 2 (D 7 1)) else st_wh (AM (XT D pa ce sg)) (XT D pa ce sg 2) (D 7 1) c) = _
  have e2 : XT D pa ce sg 2 (D 7 1) = pa := va_up_self _ _ _
  rw [st_mo_congr (B := AM D) (D 7 1) (fun s hs => AM_XT_lt hs), AM_XT_eq, e2, st_wh_congr (B := AM D) (pb := D 2) (D 7 1) (fun s hs => AM_XT_lt hs) (fun s hs => XT_ne (by decide) hs)]
  rfl
theorem sp_A_0 (E : sp_G) (s : Nat) : sp_A E s 0 = fun _ => 0 := by
  funext j
  have := sp_A_le E s 0 j
  omega
theorem WX_cases {D : Nat → Nat → Nat} {pa ce sg : Nat} (hpa : pa < 3) (hp : ∀ s, s < D 7 1 → D 2 s < 3) (c : Nat) : WX D pa ce sg c = -1 ∨ ∃ p, p < 3 ∧ WX D pa ce sg c = nI p := by
  unfold WX
  by_cases h : MO D c < LF D ce sg c
  · rw [if_pos h]; exact Or.inr ⟨pa, hpa, rfl⟩
  · rw [if_neg h]; exact WH_cases D hp c
/-- the first of d numbers from k on -/
def fw_r (w k : Nat) : Int32 := if w = 0 then nI (k / 8 + 1) else nI (k % 8)
def fw (P : Nat → Bool) (w : Nat) : Nat → Nat → Int32
  | 0, _ => -1
  | d + 1, k => if P k = true then fw_r w k else fw P w d (k + 1)
def wk_P (D : Nat → Nat → Nat) (c k : Nat) : Bool := decide (D 0 (k % 8) = 0) && decide (MO D c < LF D (k % 8) (k / 8 + 1) c)

/-! more pure words: an hour ends; borders; who is taxed -/
def CA (z : am_Z) (m : Nat → Nat → Int32) (D : Nat → Nat → Nat) : Prop := (∀ j, j < 8 → m 5 j = nI (D 0 j) ∧ D 0 j ≤ 2) ∧ m 4 2 = nI (D 7 0) ∧ D 7 0 ≤ 3 ∧ (0 < D 7 1 → 1 ≤ D 7 0) ∧ m 21 0 = nI (D 7 1) ∧ D 7 1 ≤ 6 ∧ SD z (D 7 1) (D 1) (D 2) (D 3) (D 4) ∧ SB m 21 (D 7 1) (D 5) (D 6) ∧ m 21 3 = nI (D 7 2) ∧ D 7 2 ≤ 4 ∧ m 21 4 = nI (D 7 4) ∧ D 7 4 ≤ 1 ∧ m 21 5 = nI (D 7 3) ∧ D 7 3 < 2 ^ 30
theorem CA_ag {S : List Nat} {z : am_Z} {m m' : Nat → Nat → Int32} {D : Nat → Nat → Nat} (h : CA z m D) (hag : ag S m m') (hS : 4 ∉ S ∧ 5 ∉ S ∧ 21 ∉ S ∧ 22 ∉ S ∧ 23 ∉ S) : CA z m' D := by
  unfold CA SB at *
  rw [hag 4 hS.1, hag 5 hS.2.1, hag 21 hS.2.2.1, hag 22 hS.2.2.2.1, hag 23 hS.2.2.2.2]
  exact h
def EH (D : Nat → Nat → Nat) : Nat → Nat → Nat := va_up (va_up D 6 (fun s => if s < D 7 1 then D 6 s + D 5 s else D 6 s)) 7 (va_up (D 7) 3 (D 7 3 + 1))
def BD (D : Nat → Nat → Nat) (k : Nat) : Prop := D 7 3 + k < 2 ^ 30 ∧ ∀ s, s < D 7 1 → D 6 s + k < 2 ^ 30 ∧ D 5 s ≤ 1
theorem BD_EH {D : Nat → Nat → Nat} {k : Nat} (h : BD D (k + 1)) : BD (EH D) k := by
  refine ⟨?_, fun s hs => ?_⟩
  · show (D 7 3 + 1) + k < 2 ^ 30
    have := h.1
    omega
  · have hs' : s < D 7 1 := hs
    have h2 := h.2 s hs'
    refine ⟨?_, h2.2⟩
    show (if s < D 7 1 then D 6 s + D 5 s else D 6 s) + k < 2 ^ 30
    rw [if_pos hs']
    omega
theorem BD_le {D : Nat → Nat → Nat} {k k' : Nat} (h : BD D k) (hk : k' ≤ k) : BD D k' := ⟨by have := h.1; omega, fun s hs => ⟨by have := (h.2 s hs).1; omega, (h.2 s hs).2⟩⟩
/-- a border between a cell and the one beside it by a way -/
def bd_p (who : Nat → Int32) (c w : Nat) : Bool := match sp_to c w with
  | none => false
  | some t => decide (¬ who c = -1) && (decide (¬ who t = -1) && decide (¬ who c = who t))
def bd_n (who : Nat → Int32) : Nat → Nat
  | 0 => 0
  | k + 1 => bd_n who k + (if bd_p who (k / 2) (if k % 2 = 0 then 1 else 3) = true then 1 else 0)
theorem bd_n_le (who : Nat → Int32) : ∀ k, bd_n who k ≤ k
  | 0 => Nat.le_refl 0
  | k + 1 => by
    unfold bd_n
    have := bd_n_le who k
    have h1 : (if bd_p who (k / 2) (if k % 2 = 0 then 1 else 3) = true then 1 else 0) ≤ 1 := by
      by_cases h : bd_p who (k / 2) (if k % 2 = 0 then 1 else 3) = true
      · rw [if_pos h]; exact Nat.le_refl 1
      · rw [if_neg h]; exact Nat.zero_le 1
    omega
def co_n (who : Nat → Int32) : Nat → Nat
  | 0 => 0
  | k + 1 => co_n who k + (if who k = -1 then 0 else 1)
theorem co_n_le (who : Nat → Int32) : ∀ k, co_n who k ≤ k
  | 0 => Nat.le_refl 0
  | k + 1 => by
    unfold co_n
    have := co_n_le who k
    split <;> omega
/-! dusk: nobody's people, everybody's, the taxes of each -/
def dk_n (who ppl : Nat → Int32) : Nat → Int32
  | 0 => 0
  | c + 1 => if who c = -1 then dk_n who ppl c + ppl c else dk_n who ppl c
def dk_s (who ppl : Nat → Int32) : Nat → Int32
  | 0 => 0
  | c + 1 => if who c = -1 then dk_s who ppl c else dk_s who ppl c + ppl c
def dk_t (who ppl tax : Nat → Int32) : Nat → Nat → Int32
  | 0 => tax
  | c + 1 => fun p => if who c = nI p then dk_t who ppl tax c p + ppl c else dk_t who ppl tax c p
theorem WH_cases (D : Nat → Nat → Nat) (hp : ∀ s, s < D 7 1 → D 2 s < 3) (c : Nat) : WH D c = -1 ∨ ∃ p, p < 3 ∧ WH D c = nI p := by
  rcases st_bw (AM D) (D 2) c (D 7 1) with q | ⟨s, h1, -, h3⟩
  · exact Or.inl q.2
  · exact Or.inr ⟨D 2 s, hp s h1, h3⟩
theorem BY_WH (D : Nat → Nat → Nat) (hn : D 7 1 ≤ 7) (hp : ∀ s, s < D 7 1 → D 2 s < 3) (c : Nat) : BY D c = -1 ↔ WH D c = -1 := by
  rcases st_bw (AM D) (D 2) c (D 7 1) with q | ⟨s, h1, h2, h3⟩
  · exact ⟨fun _ => q.2, fun _ => q.1⟩
  · refine ⟨fun e => ?_, fun e => ?_⟩
    · exact absurd (h2.symm.trans e) (nI_m1 (by omega))
    · have := hp s h1
      exact absurd (h3.symm.trans e) (nI_m1 (by omega))

/-! what the class and the model keep together between two calls; a call's answer is the model's -/
def BL (m : Nat → Nat → Int32) (S : Nat) : Prop := ∀ j, j < 6 → m (S + 1) j = 0 ∨ m (S + 1) j = 1
def PT (m : Nat → Nat → Int32) (S a b c nn : Nat) : Prop := (∀ j, j < 8 → m (S + 3) j = m a j) ∧ (∀ j, j < 3 → m (S + 4) j = m b j) ∧ nn ≤ 8 ∧ ∀ j, j < nn → m (S + 5) j = m c (2 * j) ∧ m (S + 6) j = m c (2 * j + 1) ∧ ∃ q, q < 8 ∧ m (S + 5) j = nI q
def NZ (z : am_Z) (n : Nat) : Prop := 53 ≤ n ∧ ∀ s q, z.2.1 s = some q → q ≤ n
def PG (m : Nat → Nat → Int32) (D : Nat → Nat → Nat) : Prop := m 2 1 = nI (D 8 0) ∧ m 37 1 = nI (D 8 0) ∧ D 8 0 ≤ 14 ∧ ∀ j, j < D 8 0 → m 3 j = m 38 j
def opn (D : Nat → Nat → Nat) : Nat := if D 7 0 = 0 then 0 else cnt0 (fun j => nI (D 0 j)) 8
def OP (m : Nat → Nat → Int32) (D : Nat → Nat → Nat) : Prop := m 4 1 = nI (opn D)
def NW (m : Nat → Nat → Int32) (D : Nat → Nat → Nat) : Prop := PT m 7 40 41 48 (D 8 1) ∧ m 7 8 = nI (D 8 1) ∧ m 37 18 = nI (D 8 1) ∧ BL m 7
def CT (i : Nat) (m : Nat → Nat → Int32) (D : Nat → Nat → Nat) : Prop := (m 1 12 = nI (D 8 2) ∧ m 37 6 = nI (D 8 2) ∧ D 8 2 ≤ i) ∧ (m 1 13 = nI (D 8 3) ∧ m 37 15 = nI (D 8 3) ∧ D 8 3 ≤ 20) ∧ (m 1 14 = nI (D 8 4) ∧ m 37 19 = nI (D 8 4) ∧ D 8 4 ≤ 30) ∧ D 7 3 ≤ i ∧ (∀ s, s < D 7 1 → D 6 s ≤ i) ∧ i ≤ 2560
def KP (i : Nat) (m : Nat → Nat → Int32) (D K : Nat → Nat → Nat) : Prop := (K 7 1 ≤ D 7 1 ∧ ∀ s, s < K 7 1 → K 1 s = D 1 s ∧ K 2 s = D 2 s ∧ K 3 s = D 3 s ∧ K 4 s = D 4 s) ∧ m 14 0 = nI (K 7 1) ∧ SB m 14 (K 7 1) (K 5) (K 6) ∧ BL m 14 ∧ (m 14 3 = nI (K 7 2) ∧ K 7 2 ≤ 4) ∧ (m 14 4 = nI (K 7 4) ∧ K 7 4 ≤ 1) ∧ (m 14 5 = nI (K 7 3) ∧ K 7 3 ≤ i ∧ ∀ s, s < K 7 1 → K 6 s ≤ i) ∧ m 14 8 = nI (K 8 1) ∧ PT m 14 51 52 53 (K 8 1) ∧ MR (fun _ => m 50) (K 7 1) (K 1) (K 2) (K 3) (K 4) (K 5) (K 6) ∧ m 37 24 = nI (K 7 1) ∧ m 37 25 = nI (K 7 2) ∧ m 37 26 = nI (K 7 4) ∧ m 37 27 = nI (K 7 3) ∧ m 37 28 = nI (K 8 1)
def IM (i : Nat) (m : Nat → Nat → Int32) (D K : Nat → Nat → Nat) : Prop := (m 1 11 = 0 ∧ (m 37 23 = -1 ∨ ∃ v, v < D 8 2 ∧ m 37 23 = nI v)) ∨ (m 1 11 = 1 ∧ m 37 23 = nI (D 8 2) ∧ KP i m D K)
def IV (i : Nat) (z : am_Z) (m : Nat → Nat → Int32) (n : Nat) (D K : Nat → Nat → Nat) : Prop := C9 z m D ∧ C10 m D ∧ NZ z n ∧ PG m D ∧ OP m D ∧ NW m D ∧ CT i m D ∧ IM i m D K
theorem CT_mono {i i' : Nat} {m : Nat → Nat → Int32} {D : Nat → Nat → Nat} (h : CT i m D) (hi : i ≤ i') (hm : i' ≤ 2560) : CT i' m D := by
  obtain ⟨⟨a1, a2, a3⟩, b, c, d, e, f⟩ := h
  exact ⟨⟨a1, a2, Nat.le_trans a3 hi⟩, b, c, Nat.le_trans d hi, fun s hs => Nat.le_trans (e s hs) hi, hm⟩
theorem KP_mono {i i' : Nat} {m : Nat → Nat → Int32} {D K : Nat → Nat → Nat} (h : KP i m D K) (hi : i ≤ i') : KP i' m D K := by
  obtain ⟨a1, a2, a3, a4, a5, a6, ⟨b1, b2, b3⟩, c⟩ := h
  exact ⟨a1, a2, a3, a4, a5, a6, ⟨b1, Nat.le_trans b2 hi, fun s hs => Nat.le_trans (b3 s hs) hi⟩, c⟩
theorem IM_mono {i i' : Nat} {m : Nat → Nat → Int32} {D K : Nat → Nat → Nat} (h : IM i m D K) (hi : i ≤ i') : IM i' m D K := by
  rcases h with h | ⟨h1, h2, h3⟩
  · exact Or.inl h
  · exact Or.inr ⟨h1, h2, KP_mono h3 hi⟩
theorem IV_mono {i i' : Nat} {z : am_Z} {m : Nat → Nat → Int32} {n : Nat} {D K : Nat → Nat → Nat} (h : IV i z m n D K) (hi : i ≤ i') (hm : i' ≤ 2560) : IV i' z m n D K := by
  obtain ⟨a, b, c, d, e, f, g, k⟩ := h
  exact ⟨a, b, c, d, e, f, CT_mono g hi hm, IM_mono k hi⟩
/-- what of the memory the invariant reads -/
theorem IV_ag2 {i : Nat} {z : am_Z} {m m' : Nat → Nat → Int32} {n : Nat} {D K : Nat → Nat → Nat} (h : IV i z m n D K) (hag : ag [21, 22, 23, 24, 25, 26, 27, 28, 29, 30, 31, 32, 33, 34, 35, 36, 37, 42, 43, 44, 45, 46, 47, 49] m m') (h37 : ∀ j, j ≠ 22 → m' 37 j = m 37 j) (h42 : ∀ j, j < 6 * D 7 1 → m' 42 j = m 42 j) : IV i z m' n D K := by
  obtain ⟨a, b, c, d, e, f, g, k⟩ := h
  have q (x : Nat) (hx : x ∉ [21, 22, 23, 24, 25, 26, 27, 28, 29, 30, 31, 32, 33, 34, 35, 36, 37, 42, 43, 44, 45, 46, 47, 49]) : m' x = m x := hag x hx
  refine ⟨C9_ag a hag (by decide), ?_, c, ?_, ?_, ?_, ?_, ?_⟩
  · obtain ⟨hg, hfd, hf3, hf1, hns, hn7, hmr, hwi, hw4, hfr, hr1, hhr, hh⟩ := b
    refine ⟨fun j hj => ?_, ?_, hf3, hf1, ?_, hn7, fun s hs => ?_, ?_, hw4, ?_, hr1, ?_, hh⟩
    · rw [q 39 (by decide)]; exact hg j hj
    · rw [h37 2 (by decide)]; exact hfd
    · rw [h37 10 (by decide)]; exact hns
    · rw [h42 (6 * s) (by omega), h42 (6 * s + 1) (by omega), h42 (6 * s + 2) (by omega), h42 (6 * s + 3) (by omega), h42 (6 * s + 4) (by omega), h42 (6 * s + 5) (by omega)]; exact hmr s hs
    · rw [h37 3 (by decide)]; exact hwi
    · rw [h37 4 (by decide)]; exact hfr
    · rw [h37 5 (by decide)]; exact hhr
  · unfold PG at *; rw [q 2 (by decide), q 3 (by decide), q 38 (by decide), h37 1 (by decide)]; exact d
  · unfold OP at *; rw [q 4 (by decide)]; exact e
  · unfold NW PT BL at *; simp only [Nat.reduceAdd] at *
    rw [q 7 (by decide), q 8 (by decide), q 10 (by decide), q 11 (by decide), q 12 (by decide), q 13 (by decide), q 40 (by decide), q 41 (by decide), q 48 (by decide), h37 18 (by decide)]; exact f
  · unfold CT at *; rw [q 1 (by decide), h37 6 (by decide), h37 15 (by decide), h37 19 (by decide)]; exact g
  · unfold IM KP PT BL SB at *; simp only [Nat.reduceAdd] at *
    rw [q 1 (by decide), q 14 (by decide), q 15 (by decide), q 16 (by decide), q 17 (by decide), q 18 (by decide), q 19 (by decide), q 20 (by decide), q 50 (by decide), q 51 (by decide), q 52 (by decide), q 53 (by decide), h37 23 (by decide), h37 24 (by decide), h37 25 (by decide), h37 26 (by decide), h37 27 (by decide), h37 28 (by decide)]; exact k
theorem IV_ag {i : Nat} {z : am_Z} {m m' : Nat → Nat → Int32} {n : Nat} {D K : Nat → Nat → Nat} (h : IV i z m n D K) (hag : ag [21, 22, 23, 24, 25, 26, 27, 28, 29, 30, 31, 32, 33, 34, 35, 36, 43, 44, 45, 46, 47, 49] m m') : IV i z m' n D K :=
  IV_ag2 h (ag_w hag (by decide)) (fun j _ => by rw [hag 37 (by decide)]) (fun j _ => by rw [hag 42 (by decide)])
/-- the second call answers as the first did, and all stands together again -/
def PR (i : Nat) (M : am_M) (As : List Value) : am_P := fun r h n => (∃ x : Int32, r = some (.int x)) ∧ (∃ fs, h 37 = .inr (.inr (10, fs))) ∧ ∀ Q2 : am_P, (∀ z m n D K, IV i z m n D K → Q2 r (wd z m) n) → AW M Q2 0 (am_ent (am_l M) As) [] h n 0 0
theorem PR_i {i : Nat} {M : am_M} {As : List Value} {z : am_Z} {m : Nat → Nat → Int32} {n : Nat} {x : Int32} (k : ∀ Q2 : am_P, (∀ z m n D K, IV i z m n D K → Q2 (some (.int x)) (wd z m) n) → AW M Q2 0 (am_ent (am_l M) As) [] (wd z m) n 0 0) : PR i M As (some (.int x)) (wd z m) n := ⟨⟨x, rfl⟩, ⟨_, rfl⟩, k⟩
theorem i_cases (x : Int32) (N : Nat) (hN : N < 2 ^ 31) : (x.toInt < 0 ∨ (N : Int) ≤ x.toInt) ∨ ∃ c, c < N ∧ x = nI c := by
  by_cases h : x.toInt < 0 ∨ (N : Int) ≤ x.toInt
  · exact Or.inl h
  · refine Or.inr ⟨x.toInt.toNat, by omega, ?_⟩
    apply Int32.toInt_inj.mp
    rw [nI_toInt (by omega)]
    omega

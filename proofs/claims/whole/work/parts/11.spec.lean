/-! pure words -/
theorem j_lt {x y : Int32} (h : x.toInt < y.toInt) : x < y := Int32.lt_iff_toInt_lt.mpr h
theorem j_nlt {x y : Int32} (h : y.toInt ≤ x.toInt) : ¬ x < y := fun q => absurd (Int32.lt_iff_toInt_lt.mp q) (by omega)
theorem lgc_lt {x y : Int64} (h : x.toInt < y.toInt) : lg_cmp x y < 0 := by
  have h1 : ¬ y < x := fun q => by have := Int64.lt_iff_toInt_lt.mp q; omega
  have h2 : ¬ x = y := fun q => by subst q; omega
  simp [lg_cmp, h1, h2]
  try decide
theorem lgc_nlt {x y : Int64} (h : y.toInt ≤ x.toInt) : ¬ lg_cmp x y < 0 := by
  by_cases h1 : y < x
  · simp [lg_cmp, h1]; try decide
  · have h2 : x = y := Int64.toInt_inj.mp (by have : ¬ y.toInt < x.toInt := fun q => h1 (Int64.lt_iff_toInt_lt.mpr q); omega)
    subst h2
    simp [lg_cmp]
theorem lgc_gt {x y : Int64} (h : y.toInt < x.toInt) : 0 < lg_cmp x y := by
  have h1 : y < x := Int64.lt_iff_toInt_lt.mpr h
  simp [lg_cmp, h1]
  try decide
theorem lgc_ngt {x y : Int64} (h : x.toInt ≤ y.toInt) : ¬ 0 < lg_cmp x y := by
  have h1 : ¬ y < x := fun q => by have := Int64.lt_iff_toInt_lt.mp q; omega
  by_cases h2 : x = y
  · subst h2
    simp [lg_cmp]
  · simp [lg_cmp, h1, h2]
    try decide
/-- the places that may differ -/
def ag (S : List Nat) (m m' : Nat → Nat → Int32) : Prop := ∀ k, k ∉ S → m' k = m k
theorem ag_r (S : List Nat) (m : Nat → Nat → Int32) : ag S m m := fun _ _ => rfl
theorem ag_up {S : List Nat} {m m' : Nat → Nat → Int32} {a : Nat} {f : Nat → Int32} (h : ag S m m') (ha : a ∈ S) : ag S m (va_up m' a f) := fun k hk => by
  have hne : k ≠ a := fun q => hk (by rw [q]; exact ha)
  rw [va_up_ne _ _ hne]
  exact h k hk
theorem ag_t {S T : List Nat} {m m' m'' : Nat → Nat → Int32} (h : ag S m m') (h' : ag T m' m'') (hT : ∀ k, k ∈ T → k ∈ S) : ag S m m'' := fun k hk => (h' k (fun q => hk (hT k q))).trans (h k hk)
theorem ag_w {S T : List Nat} {m m' : Nat → Nat → Int32} (h : ag S m m') (hT : ∀ k, k ∈ S → k ∈ T) : ag T m m' := fun k hk => h k (fun q => hk (hT k q))
/-- a row whose first i places are filled anew -/
def fil (G F : Nat → Int32) (i : Nat) : Nat → Int32 := fun j => if j < i then G j else F j
theorem fil_0 (G F : Nat → Int32) : fil G F 0 = F := by funext j; simp [fil]
theorem fil_s {G F : Nat → Int32} {i : Nat} {v : Int32} (h : v = G i) : upd (fil G F i) i v = fil G F (i + 1) := by
  subst h
  funext j
  unfold fil upd
  by_cases h1 : j = i
  · subst h1
    simp
  · by_cases h2 : j < i
    · simp [h1, h2, Nat.lt_succ_of_lt h2]
    · have h3 : ¬ j < i + 1 := by omega
      simp [h1, h2, h3]
theorem fil_at {G F : Nat → Int32} {i j : Nat} (h : j < i) : fil G F i j = G j := by simp [fil, h]
/-- which sign fits where -/
def pg_fit (p : Nat) (c : Int32) : Bool := if p = 4 then c == 47 else if p = 9 then c == 59 else if p = 10 then decide (49 ≤ c) && decide (c ≤ 51) else if p < 10 then c == 46 || c == 35 || c == 119 else false
/-- the first place from i on, of d places, whose sign doesn't fit -/
def pg_fw (f : Nat → Int32) : Nat → Nat → Nat
  | 0, i => i
  | d + 1, i => if pg_fit i (f i) = true then pg_fw f d (i + 1) else i
theorem pg_fw_congr {f g : Nat → Int32} : ∀ (d i : Nat), (∀ j, i ≤ j → j < i + d → f j = g j) → pg_fw f d i = pg_fw g d i
  | 0, _, _ => rfl
  | d + 1, i, h => by
    unfold pg_fw
    rw [h i (Nat.le_refl i) (by omega), pg_fw_congr d (i + 1) (fun j h1 h2 => h j (by omega) (by omega))]
theorem pg_fw_le (f : Nat → Int32) : ∀ (d i : Nat), i ≤ pg_fw f d i ∧ pg_fw f d i ≤ i + d
  | 0, _ => ⟨Nat.le_refl _, Nat.le_refl _⟩
  | d + 1, i => by
    unfold pg_fw
    have := pg_fw_le f d (i + 1)
    split <;> omega
/-- if none is wrong, all fit -/
theorem pg_fw_all {f : Nat → Int32} : ∀ (d i : Nat), pg_fw f d i = i + d → ∀ j, i ≤ j → j < i + d → pg_fit j (f j) = true
  | 0, _, _, j, h1, h2 => by omega
  | d + 1, i, h, j, h1, h2 => by
    unfold pg_fw at h
    split at h
    · rename_i hf
      by_cases hj : j = i
      · subst hj; exact hf
      · exact pg_fw_all d (i + 1) (by omega) j (by omega) (by omega)
    · omega
/-- what a sign makes of a cell -/
def pg_gr (c : Int32) : Int32 := if c = 35 then 1 else if c = 119 then 2 else 0
def pg_pl (c : Nat) : Nat := if c < 4 then c else c + 1
/-- how many of the first i places hold 0 -/
def cnt0 (f : Nat → Int32) : Nat → Nat
  | 0 => 0
  | i + 1 => cnt0 f i + (if f i = 0 then 1 else 0)
theorem cnt0_le (f : Nat → Int32) : ∀ i, cnt0 f i ≤ i
  | 0 => Nat.le_refl 0
  | i + 1 => by
    unfold cnt0
    have := cnt0_le f i
    split <;> omega
theorem cnt0_congr {f g : Nat → Int32} : ∀ i, (∀ j, j < i → f j = g j) → cnt0 f i = cnt0 g i
  | 0, _ => rfl
  | i + 1, h => by
    unfold cnt0
    rw [cnt0_congr i (fun j hj => h j (by omega)), h i (by omega)]

/-! how smells spread: steps, rounds, and that eight rounds do -/
def sp_to (c w : Nat) : Option Nat := if w = 1 then (if c % 4 < 3 then some (c + 1) else none) else if w = 2 then (if 0 < c % 4 then some (c - 1) else none) else if w = 3 then (if c < 4 then some (c + 4) else none) else if w = 4 then (if 4 ≤ c then some (c - 4) else none) else none
theorem sp_to_lt {c w t : Nat} (hc : c < 8) (h : sp_to c w = some t) : t < 8 := by
  unfold sp_to at h
  split at h
  · split at h
    · cases h; omega
    · cases h
  · split at h
    · split at h
      · cases h; omega
      · cases h
    · split at h
      · split at h
        · cases h; omega
        · cases h
      · split at h
        · split at h
          · cases h; omega
          · cases h
        · cases h
def sp_opp (w : Nat) : Nat := if w % 2 = 1 then w + 1 else w - 1
def sp_loss (fd ea wi w g : Nat) : Nat := ((fd : Int) - ea - (if wi = w then 1 else 0) + (if wi = sp_opp w then 1 else 0) + (if g = 2 then 2 else 0)).toNat
/-- where a step leads, and what it costs -/
def sp_E (g : Nat → Nat) (bl : Nat → Bool) (fd ea wi : Nat) (c w : Nat) : Option (Nat × Nat) := match sp_to c w with
  | none => none
  | some t => if g t = 1 ∨ bl t = true then none else some (t, sp_loss fd ea wi w (g t))
theorem sp_E_lt {g : Nat → Nat} {bl : Nat → Bool} {fd ea wi c w t l : Nat} (hc : c < 8) (h : sp_E g bl fd ea wi c w = some (t, l)) : t < 8 := by
  unfold sp_E at h
  split at h
  · cases h
  · rename_i t' ht
    split at h
    · cases h
    · cases h
      exact sp_to_lt hc ht
abbrev sp_G : Type := Nat → Nat → Option (Nat × Nat)
def sp_fire (E : sp_G) (u : Nat → Nat) (c w : Nat) : Bool := match E c w with
  | none => false
  | some q => decide (u q.1 + q.2 < u c)
def sp_st (E : sp_G) (u : Nat → Nat) (c w : Nat) : Nat → Nat := match E c w with
  | none => u
  | some q => if u q.1 + q.2 < u c then va_up u q.1 (u c - q.2) else u
def sp_w (E : sp_G) (u : Nat → Nat) (c : Nat) : Nat → Nat → Nat
  | 0 => u
  | w + 1 => sp_st E (sp_w E u c w) c (w + 1)
def sp_gw (E : sp_G) (u : Nat → Nat) (c : Nat) : Nat → Bool
  | 0 => false
  | w + 1 => sp_gw E u c w || sp_fire E (sp_w E u c w) c (w + 1)
def sp_r (E : sp_G) (u : Nat → Nat) : Nat → Nat → Nat
  | 0 => u
  | c + 1 => sp_w E (sp_r E u c) c 4
def sp_gr (E : sp_G) (u : Nat → Nat) : Nat → Bool
  | 0 => false
  | c + 1 => sp_gr E u c || sp_gw E (sp_r E u c) c 4
def sp_i (E : sp_G) (u : Nat → Nat) : Nat → Nat → Nat
  | 0 => u
  | k + 1 => sp_r E (sp_i E u k) 8
def sp_0 (s force : Nat) : Nat → Nat := fun j => if j = s then force else 0
/-- what is left of a force in each cell -/
def sp_A (E : sp_G) (s force : Nat) : Nat → Nat := sp_i E (sp_0 s force) 8
theorem sp_st_eq {E : sp_G} {u : Nat → Nat} {c w : Nat} (h : sp_fire E u c w = false) : sp_st E u c w = u := by
  unfold sp_fire at h
  unfold sp_st
  cases hE : E c w with
  | none => rfl
  | some q =>
    rw [hE] at h
    simp only [decide_eq_false_iff_not] at h
    simp only [if_neg h]
theorem sp_w_eq {E : sp_G} {u : Nat → Nat} {c : Nat} : ∀ w, sp_gw E u c w = false → sp_w E u c w = u
  | 0, _ => rfl
  | w + 1, h => by
    unfold sp_gw at h
    rw [Bool.or_eq_false_iff] at h
    unfold sp_w
    rw [sp_st_eq h.2, sp_w_eq w h.1]
theorem sp_r_eq {E : sp_G} {u : Nat → Nat} : ∀ c, sp_gr E u c = false → sp_r E u c = u
  | 0, _ => rfl
  | c + 1, h => by
    unfold sp_gr at h
    rw [Bool.or_eq_false_iff] at h
    unfold sp_r
    rw [sp_w_eq 4 h.2, sp_r_eq c h.1]
theorem sp_i_stop {E : sp_G} {u : Nat → Nat} {k : Nat} (h : sp_gr E (sp_i E u k) 8 = false) : ∀ d, sp_i E u (k + d) = sp_i E u k
  | 0 => rfl
  | d + 1 => by
    show sp_r E (sp_i E u (k + d)) 8 = _
    rw [sp_i_stop h d]
    exact sp_r_eq 8 h
/-! no value beyond the first force -/
theorem sp_st_le {E : sp_G} {u : Nat → Nat} {c w F : Nat} (h : ∀ j, u j ≤ F) : ∀ j, sp_st E u c w j ≤ F := by
  intro j
  unfold sp_st
  cases E c w with
  | none => exact h j
  | some q =>
    by_cases hq : u q.1 + q.2 < u c
    · simp only [if_pos hq]
      by_cases hj : j = q.1
      · subst hj
        rw [va_up_self]
        have := h c
        omega
      · rw [va_up_ne _ _ hj]
        exact h j
    · simp only [if_neg hq]
      exact h j
theorem sp_w_le {E : sp_G} {u : Nat → Nat} {c F : Nat} (h : ∀ j, u j ≤ F) : ∀ w j, sp_w E u c w j ≤ F
  | 0 => h
  | w + 1 => sp_st_le (sp_w_le h w)
theorem sp_r_le {E : sp_G} {u : Nat → Nat} {F : Nat} (h : ∀ j, u j ≤ F) : ∀ c j, sp_r E u c j ≤ F
  | 0 => h
  | c + 1 => sp_w_le (sp_r_le h c) 4
theorem sp_i_le {E : sp_G} {u : Nat → Nat} {F : Nat} (h : ∀ j, u j ≤ F) : ∀ k j, sp_i E u k j ≤ F
  | 0 => h
  | k + 1 => sp_r_le (sp_i_le h k) 8
theorem sp_0_le (s F : Nat) : ∀ j, sp_0 s F j ≤ F := by
  intro j
  unfold sp_0
  split <;> omega
theorem sp_A_le (E : sp_G) (s F : Nat) : ∀ j, sp_A E s F j ≤ F := sp_i_le (sp_0_le s F) 8
/-! the same steps, the same values -/
theorem sp_w_congr {E E' : sp_G} {u : Nat → Nat} {c : Nat} (h : ∀ w, E c w = E' c w) : ∀ w, sp_w E u c w = sp_w E' u c w
  | 0 => rfl
  | w + 1 => by
    unfold sp_w sp_st
    rw [sp_w_congr h w, h (w + 1)]
theorem sp_r_congr {E E' : sp_G} {u : Nat → Nat} : ∀ c, (∀ c', c' < c → ∀ w, E c' w = E' c' w) → sp_r E u c = sp_r E' u c
  | 0, _ => rfl
  | c + 1, h => by
    unfold sp_r
    rw [sp_r_congr c (fun c' hc => h c' (by omega)), sp_w_congr (h c (by omega))]
theorem sp_i_congr {E E' : sp_G} {u : Nat → Nat} (h : ∀ c', c' < 8 → ∀ w, E c' w = E' c' w) : ∀ k, sp_i E u k = sp_i E' u k
  | 0 => rfl
  | k + 1 => by
    unfold sp_i
    rw [sp_i_congr h k, sp_r_congr 8 h]
theorem sp_A_congr {E E' : sp_G} {s F : Nat} (h : ∀ c', c' < 8 → ∀ w, E c' w = E' c' w) : sp_A E s F = sp_A E' s F := sp_i_congr h 8
/-! eight different numbers below eight, not nine -/
theorem ph_len : ∀ (n : Nat) (l : List Nat), l.Nodup → (∀ x ∈ l, x < n) → l.length ≤ n
  | 0, l, _, h => by
    cases l with
    | nil => exact Nat.le_refl 0
    | cons a l => exact absurd (h a List.mem_cons_self) (Nat.not_lt_zero a)
  | n + 1, l, hn, h => by
    by_cases hm : n ∈ l
    · have h1 : (l.erase n).length = l.length - 1 := List.length_erase_of_mem hm
      have h2 := ph_len n (l.erase n) (hn.erase n) (fun x hx => by
        have h3 := h x (List.mem_of_mem_erase hx)
        have h4 : x ≠ n := fun e => by
          subst e
          exact absurd hx (List.Nodup.not_mem_erase hn)
        omega)
      omega
    · have h2 := ph_len n l hn (fun x hx => by
        have h3 := h x hx
        have h4 : x ≠ n := fun e => hm (e ▸ hx)
        omega)
      omega
/-- in round r, all steps before (c, w) done: each value has a list of different cells that smell at least as much, longer than the round of its last change; a step that would still fire starts at a cell that changed lately -/
def sp_I (E : sp_G) (u ro : Nat → Nat) (r c w : Nat) : Prop :=
  (∀ t, t < 8 → 0 < u t → ∃ l : List Nat, l.Nodup ∧ (∀ d ∈ l, d < 8 ∧ u t ≤ u d) ∧ ro t + 1 ≤ l.length) ∧
  (∀ c' w' t l, c' < 8 → E c' w' = some (t, l) → u c' ≤ u t + l ∨ r ≤ ro c' + 1) ∧
  (∀ c' w' t l, c' < 8 → (c' < c ∨ (c' = c ∧ w' < w)) → E c' w' = some (t, l) → u c' ≤ u t + l ∨ r ≤ ro c')
theorem sp_I_step {E : sp_G} {u ro : Nat → Nat} {r c w : Nat} (hE : ∀ c w t l, c < 8 → E c w = some (t, l) → t < 8) (hc : c < 8) (h : sp_I E u ro r c w) : (∃ ro', sp_I E (sp_st E u c w) ro' r c (w + 1)) ∧ (8 ≤ r → sp_fire E u c w = false) := by
  obtain ⟨h1, h2, h3⟩ := h
  by_cases hf : sp_fire E u c w = false
  · rw [sp_st_eq hf]
    refine ⟨⟨ro, h1, h2, fun c' w' t l hc' hb he => ?_⟩, fun _ => hf⟩
    by_cases hlast : c' = c ∧ w' = w
    · obtain ⟨rfl, rfl⟩ := hlast
      left
      unfold sp_fire at hf
      rw [he] at hf
      simp only [decide_eq_false_iff_not] at hf
      omega
    · exact h3 c' w' t l hc' (by omega) he
  · unfold sp_fire at hf
    unfold sp_st
    cases he : E c w with
    | none => rw [he] at hf; exact absurd rfl hf
    | some q =>
      obtain ⟨t, l⟩ := q
      rw [he] at hf
      simp only [decide_eq_false_iff_not, Classical.not_not] at hf
      simp only [if_pos hf]
      have ht := hE c w t l hc he
      have hro : r ≤ ro c + 1 := by
        rcases h2 c w t l hc he with q | q
        · omega
        · exact q
      obtain ⟨L, hL1, hL2, hL3⟩ := h1 c hc (by omega)
      have htL : t ∉ L := fun hm => by
        have := (hL2 t hm).2
        omega
      have hlen : (t :: L).length ≤ 8 := ph_len 8 (t :: L) (List.nodup_cons.mpr ⟨htL, hL1⟩) (fun x hx => by
        rcases List.mem_cons.mp hx with rfl | hx
        · exact ht
        · exact (hL2 x hx).1)
      rw [List.length_cons] at hlen
      refine ⟨⟨va_up ro t r, ?_, ?_, ?_⟩, fun h8 => by omega⟩
      · intro t' ht' hpos
        by_cases htt : t' = t
        · subst htt
          rw [va_up_self, va_up_self]
          refine ⟨t' :: L, List.nodup_cons.mpr ⟨htL, hL1⟩, fun d hd => ?_, by rw [List.length_cons]; omega⟩
          rcases List.mem_cons.mp hd with rfl | hd
          · exact ⟨ht, by rw [va_up_self]; exact Nat.le_refl _⟩
          · have hdt : d ≠ t' := fun e => htL (e ▸ hd)
            rw [va_up_ne _ _ hdt]
            have := hL2 d hd
            exact ⟨this.1, by omega⟩
        · rw [va_up_ne _ _ htt] at hpos ⊢
          rw [va_up_ne _ _ htt]
          obtain ⟨L', a1, a2, a3⟩ := h1 t' ht' hpos
          refine ⟨L', a1, fun d hd => ?_, a3⟩
          have := a2 d hd
          refine ⟨this.1, ?_⟩
          by_cases hdt : d = t
          · subst hdt
            rw [va_up_self]
            omega
          · rw [va_up_ne _ _ hdt]
            exact this.2
      · intro c' w' t' l' hc' he'
        by_cases hct : c' = t
        · subst hct
          right
          rw [va_up_self]
          omega
        · rw [va_up_ne _ _ hct, va_up_ne _ _ hct]
          rcases h2 c' w' t' l' hc' he' with q | q
          · left
            by_cases htt : t' = t
            · subst htt
              rw [va_up_self]
              omega
            · rw [va_up_ne _ _ htt]
              exact q
          · exact Or.inr q
      · intro c' w' t' l' hc' hb he'
        by_cases hct : c' = t
        · subst hct
          right
          rw [va_up_self]
          exact Nat.le_refl r
        · rw [va_up_ne _ _ hct, va_up_ne _ _ hct]
          by_cases hlast : c' = c ∧ w' = w
          · obtain ⟨rfl, rfl⟩ := hlast
            rw [he] at he'
            cases he'
            left
            rw [va_up_self]
            omega
          · rcases h3 c' w' t' l' hc' (by omega) he' with q | q
            · left
              by_cases htt : t' = t
              · subst htt
                rw [va_up_self]
                omega
              · rw [va_up_ne _ _ htt]
                exact q
            · exact Or.inr q
theorem sp_I_w {E : sp_G} {u ro : Nat → Nat} {r c : Nat} (hE : ∀ c w t l, c < 8 → E c w = some (t, l) → t < 8) (hc : c < 8) (h : sp_I E u ro r c 1) : ∀ w, (∃ ro', sp_I E (sp_w E u c w) ro' r c (w + 1)) ∧ (8 ≤ r → sp_gw E u c w = false)
  | 0 => ⟨⟨ro, h⟩, fun _ => rfl⟩
  | w + 1 => by
    obtain ⟨⟨ro', h1⟩, h2⟩ := sp_I_w hE hc h w
    obtain ⟨h3, h4⟩ := sp_I_step hE hc h1
    refine ⟨h3, fun h8 => ?_⟩
    unfold sp_gw
    rw [h2 h8, h4 h8]
    rfl
/-- steps by the ways 1 to 4 alone -/
def sp_4 (E : sp_G) : Prop := ∀ c w q, E c w = some q → 1 ≤ w ∧ w ≤ 4
theorem sp_I_r {E : sp_G} {u ro : Nat → Nat} {r : Nat} (hE : ∀ c w t l, c < 8 → E c w = some (t, l) → t < 8) (h4 : sp_4 E) (h : sp_I E u ro r 0 1) : ∀ c, c ≤ 8 → (∃ ro', sp_I E (sp_r E u c) ro' r c 1) ∧ (8 ≤ r → sp_gr E u c = false)
  | 0, _ => ⟨⟨ro, h⟩, fun _ => rfl⟩
  | c + 1, hc => by
    obtain ⟨⟨ro', h1⟩, h2⟩ := sp_I_r hE h4 h c (by omega)
    obtain ⟨⟨ro2, a1, a2, a3⟩, h3⟩ := sp_I_w hE (show c < 8 by omega) h1 4
    refine ⟨⟨ro2, a1, a2, fun c' w' t l hc' hb he => a3 c' w' t l hc' ?_ he⟩, fun h8 => ?_⟩
    · have := h4 c' w' _ he
      omega
    · unfold sp_gr
      rw [h2 h8, h3 h8]
      rfl
theorem sp_I_i {E : sp_G} {s F : Nat} (hs : s < 8) (hE : ∀ c w t l, c < 8 → E c w = some (t, l) → t < 8) (h4 : sp_4 E) : ∀ k, ∃ ro, sp_I E (sp_i E (sp_0 s F) k) ro (k + 1) 0 1
  | 0 => by
    refine ⟨fun _ => 0, fun t ht hp => ?_, fun c' w' t l hc' he => Or.inr (by omega), fun c' w' t l hc' hb he => ?_⟩
    · refine ⟨[t], by simp, fun d hd => ?_, by simp⟩
      rw [List.mem_singleton.mp hd]
      exact ⟨ht, Nat.le_refl _⟩
    · have := h4 c' w' _ he
      omega
  | k + 1 => by
    obtain ⟨ro, h⟩ := sp_I_i hs hE h4 k
    obtain ⟨⟨ro', a1, a2, a3⟩, -⟩ := sp_I_r hE h4 h 8 (Nat.le_refl 8)
    refine ⟨ro', a1, fun c' w' t l hc' he => ?_, fun c' w' t l hc' hb he => ?_⟩
    · rcases a3 c' w' t l hc' (Or.inl hc') he with q | q
      · exact Or.inl q
      · exact Or.inr (by omega)
    · have := h4 c' w' _ he
      omega
/-- eight rounds do: nothing grows in the round behind them -/
theorem sp_done {E : sp_G} {s F : Nat} (hs : s < 8) (hE : ∀ c w t l, c < 8 → E c w = some (t, l) → t < 8) (h4 : sp_4 E) : sp_gr E (sp_i E (sp_0 s F) 8) 8 = false := by
  obtain ⟨ro, h⟩ := sp_I_i (F := F) hs hE h4 8
  exact (sp_I_r hE h4 h 8 (Nat.le_refl 8)).2 (by omega)
theorem sp_E_4 (g : Nat → Nat) (bl : Nat → Bool) (fd ea wi : Nat) : sp_4 (sp_E g bl fd ea wi) := by
  intro c w q h
  unfold sp_E at h
  have ht : sp_to c w ≠ none := fun e => by rw [e] at h; cases h
  unfold sp_to at ht
  by_cases h1 : w = 1
  · omega
  · by_cases h2 : w = 2
    · omega
    · by_cases h3 : w = 3
      · omega
      · by_cases h5 : w = 4
        · omega
        · simp [h1, h2, h3, h5] at ht
theorem sp_E_done {g : Nat → Nat} {bl : Nat → Bool} {fd ea wi s F : Nat} (hs : s < 8) : sp_gr (sp_E g bl fd ea wi) (sp_i (sp_E g bl fd ea wi) (sp_0 s F) 8) 8 = false :=
  sp_done hs (fun _ _ _ _ hc h => sp_E_lt hc h) (sp_E_4 g bl fd ea wi)
/-- wherever it stops, it stops with the same -/
theorem sp_A_stop {E : sp_G} {s F k : Nat} (hk : k ≤ 8) (h : sp_gr E (sp_i E (sp_0 s F) k) 8 = false) : sp_i E (sp_0 s F) k = sp_A E s F := by
  have := sp_i_stop h (8 - k)
  rw [show k + (8 - k) = 8 by omega] at this
  exact this.symm

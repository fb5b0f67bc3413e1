/-! ===== the abstract machine: a method's walk over places instead of addresses =====
Place 0 is the script; place k + 1 is the k-th cell made since the law's start, at the address base + k. A heap is a function of places; nothing is renamed, for cells come one behind another. -/
abbrev am_M : Type := MethodName × ByteArray × Nat × Option FieldType × Nat × Nat × Nat × Nat
abbrev am_y (M : am_M) : MethodName := M.1
abbrev am_c (M : am_M) : ByteArray := M.2.1
abbrev am_l (M : am_M) : Nat := M.2.2.1
abbrev am_r (M : am_M) : Option FieldType := M.2.2.2.1
abbrev am_fr (M : am_M) : Nat := M.2.2.2.2.1
abbrev am_lo (M : am_M) : Nat := M.2.2.2.2.2.1
abbrev am_mc (M : am_M) : Nat := M.2.2.2.2.2.2.1
abbrev am_ms (M : am_M) : Nat := M.2.2.2.2.2.2.2
abbrev am_rm (M : am_M) : Room := { frames := am_fr M, cells := am_mc M, slots := am_ms M, locals := am_lo M }
/-- a cell: a row of ints (kind 0) or booleans (kind 1), a row of references, an object -/
abbrev am_E : Type := (Nat × Nat × (Nat → Int32)) ⊕ (Nat × (Nat → Option Nat)) ⊕ (Nat × List Value)
def am_ad (b base : Nat) : Nat → Nat
  | 0 => b
  | k + 1 => base + k
def am_v (b base : Nat) : Value → Value
  | .ref k => .ref (am_ad b base k)
  | v => v
def am_e (b base : Nat) (cA : Nat → ClassId) : am_E → va_E
  | .inl q => .inl (cA q.1, q.2.1, .inl q.2.2)
  | .inr (.inl q) => .inl (cA 2, q.1, .inr (.inr (.inr (.inr (fun i => (q.2 i).map (am_ad b base))))))
  | .inr (.inr q) => .inr (q.1, q.2.map (am_v b base))
theorem am_v_cat (b base : Nat) (v : Value) : (am_v b base v).category = v.category := by cases v <;> rfl
theorem am_v_sum (b base : Nat) (st : List Value) : ((st.map (am_v b base)).map fun v => v.category).sum = (st.map fun v => v.category).sum := by
  rw [List.map_map]
  exact congrArg List.sum (List.map_congr_left (fun v _ => am_v_cat b base v))
abbrev am_S : String := "SmellBorders$Source"
abbrev am_tys (cA : Nat → ClassId) : List (ClassId × FieldType) := [(cA 0, .int), (cA 1, .boolean), (cA 2, .object am_S)]
/-- the tables' words that a call keeps -/
def am_T : List Cond := lw_tbl.filter goodWord
theorem am_in {w : Cond} (h : w ∈ lw_tbl) (g : goodWord w = true) : w ∈ am_T := List.mem_filter.mpr ⟨h, g⟩
theorem am_good {big : List Cond} (ws : List Cond) (h : ∀ w ∈ am_T, w ∈ big) (hw : ∀ w ∈ ws, w ∈ am_T) : GoodIn big ws := fun w q => ⟨h w (hw w q), good_of_word (List.mem_filter.mp (hw w q)).2⟩
/-- private constructors that the outer class calls; casts that hold; casts that don't -/
def am_nn : List (Nat × MethodName) := [(11, yX3_init), (18, yX7_init), (31, yX5_init), (44, yX0_init)]
def am_ca : List (String × String) := [(RX8, RX6), (RX1, RX4), (RX2, RX4), (RX6, RX4), (RX8, RX4)]
def am_nc : List (String × String) := [(RX4, RX1), (RX2, RX1), (RX6, RX1), (RX8, RX1), (RX4, RX2), (RX1, RX2), (RX6, RX2), (RX8, RX2), (RX4, RX6), (RX1, RX6), (RX2, RX6), (RX4, RX8), (RX1, RX8), (RX2, RX8), (RX6, RX8)]
def am_K (D : va_G) (cA : Nat → ClassId) (U : State) : Prop :=
  va_K D vwCl (am_tys cA) U ∧ (∀ q ∈ am_nn, va_Nw (.methodLinkNest RX9 q.1 q.2 RX9) U) ∧ (∀ q ∈ am_ca, va_Nw (.castable q.1 q.2) U) ∧ (∀ q ∈ am_nc, va_Nc q.1 q.2 U) ∧ va_AO am_S U
theorem am_K_moved {D : va_G} {cA : Nat → ClassId} {s U : State} (hW : s.WarmedH U.vm) (h : am_K D cA s) : am_K D cA U :=
  ⟨va_K.moved hW.alike h.1, fun q hq => va_Nw.warmM hW (h.2.1 q hq), fun q hq => va_Nw.warmC hW (h.2.2.1 q hq), fun q hq => (h.2.2.2.1 q hq).moved hW.alike, h.2.2.2.2.moved hW.alike⟩
theorem am_K_same {D : va_G} {cA : Nat → ClassId} {s U : State} (hv : s.vm = U.vm) (h : am_K D cA s) : am_K D cA U := by
  have ha : s.vm.Alike U.vm := hv ▸ Vm.Alike.refl s.vm
  exact ⟨va_K.moved ha h.1, fun q hq => va_Nw.same rfl hv (h.2.1 q hq), fun q hq => va_Nw.same rfl hv (h.2.2.1 q hq), fun q hq => (h.2.2.2.1 q hq).moved ha, h.2.2.2.2.moved ha⟩
def am_L (b base nL : Nat) (lv : List (Option Value)) (ls : Array Slot) : Prop := ls.size = nL ∧ lv_wf ls ∧ ∀ (i : Nat) (v : Value), lv[i]? = some (some v) → ls[i]? = some (.val (am_v b base v))
/-- what stands behind the last cell -/
def am_0 : am_E := .inr (.inr (99, []))
def am_Hp (b base : Nat) (D : va_G) (cA : Nat → ClassId) (h : Nat → am_E) (n : Nat) (H : Heap) : Prop := H.size = base + n ∧ (∀ k, k < n → va_at D vwCl (base + k, am_e b base cA (h (k + 1))) H) ∧ ∀ k, n ≤ k → h (k + 1) = am_0
def am_C (M : am_M) (b base L : Nat) (xs : Nat → Int32) (D : va_G) (cA : Nat → ClassId) (p : Program) (s : State) (m : MethodId) (args : Array Value) (meth : Method) (c : Code) : Prop :=
  p.tables.exec = Jvm.exec ∧ c.code = am_c M ∧ meth.sig.returnType = am_r M ∧ meth.locks = false ∧ c.maxLocals = am_l M ∧ s.vm.findClass (am_y M).cls = some m.cls ∧ meth.name = (am_y M).name ∧ (∀ w ∈ am_T, w.before args s = true) ∧ am_K D cA s ∧ va_X b L xs s s.heap ∧ b < base ∧ base ≤ s.heap.size
abbrev am_P : Type := Option Value → (Nat → am_E) → Nat → Prop
def am_Q (b base L : Nat) (xs : Nat → Int32) (D : va_G) (cA : Nat → ClassId) (Q : am_P) : Array Value → State → Outcome → State → Prop := fun _ st oc t =>
  (∃ (r : Option Value) (h : Nat → am_E) (n : Nat), oc = .returned (r.map (am_v b base)) ∧ Q r h n ∧ h 0 = .inl (0, L, xs) ∧ am_Hp b base D cA h n t.heap) ∧ va_F (fun q => base ≤ q) st t
/-- THE JUDGEMENT: from this place of the method M, with these locals, this stack, this heap of n cells, so many made, M comes to its end with Q -/
def AW (M : am_M) (Q : am_P) (pc : Nat) (lv : List (Option Value)) (st : List Value) (h : Nat → am_E) (n cu su : Nat) : Prop :=
  ∀ (l : Launch) (b base L : Nat) (xs : Nat → Int32) (D : va_G) (cA : Nat → ClassId) (p : Program) (e : Env) (s : State) (m : MethodId) (args : Array Value) (below : List Frame) (meth : Method) (c : Code) (H : Heap) (locs : List Loc) (ls : Array Slot),
    am_C M b base L xs D cA p s m args meth c → h 0 = .inl (0, L, xs) → am_Hp b base D cA h n H → va_S (fun q => base ≤ q) s.heap H locs → am_L b base (am_l M) lv ls →
    W p l e (am_rm M) s m args below meth c H locs cu su (MQ below (am_Q b base L xs D cA Q) args s (am_mc M) (am_ms M) (fun q => base ≤ q)) (F0 m pc ls (st.map (am_v b base)))
/-! locals -/
theorem am_L_at {b base nL : Nat} {lv : List (Option Value)} {ls : Array Slot} (h : am_L b base nL lv ls) {i : Nat} {v : Value} (hi : lv[i]? = some (some v)) : ls[i]? = some (.val (am_v b base v)) := h.2.2 i v hi
def am_as (b base : Nat) (lv : List (Option Value)) : List (Nat × Value) := (List.range lv.length).filterMap (fun i => match lv[i]? with | some (some v) => some (i, am_v b base v) | _ => none)
theorem am_as_mem {b base : Nat} {lv : List (Option Value)} {q : Nat × Value} : q ∈ am_as b base lv ↔ ∃ v, lv[q.1]? = some (some v) ∧ q.2 = am_v b base v := by
  unfold am_as
  rw [List.mem_filterMap]
  constructor
  · rintro ⟨i, -, hi⟩
    split at hi
    · rename_i v hv
      cases hi
      exact ⟨v, hv, rfl⟩
    · cases hi
  · rintro ⟨v, hv, h2⟩
    refine ⟨q.1, List.mem_range.mpr (List.getElem?_eq_some_iff.mp hv).1, ?_⟩
    rw [hv]
    simp only [← h2]
theorem am_L_has {b base nL : Nat} {lv : List (Option Value)} {ls : Array Slot} (h : am_L b base nL lv ls) : lv_has ls nL (am_as b base lv) := by
  refine ⟨h.1, h.2.1, fun q hq => ?_⟩
  obtain ⟨v, hv, h2⟩ := am_as_mem.mp hq
  rw [h2]
  exact h.2.2 _ _ hv
/-- a value is put into a local: a long that stood one below it is gone -/
def am_set (lv : List (Option Value)) (i : Nat) (v : Value) : List (Option Value) :=
  (match i with
   | 0 => lv
   | j + 1 => match lv[j]? with
     | some (some (.long _)) => lv.set j none
     | some (some (.double _)) => lv.set j none
     | _ => lv).set i (some v)
def am_setl (lv : List (Option Value)) (i : Nat) (v : Value) : List (Option Value) := am_set (lv.set (i + 1) none) i v
theorem am_gs {α : Type} {l : List α} {i : Nat} {a b : α} (h : (l.set i a)[i]? = some b) : b = a := by
  by_cases hl : i < l.length
  · rw [List.getElem?_set_self hl] at h
    exact (Option.some.inj h).symm
  · rw [List.getElem?_eq_none (by simpa using Nat.le_of_not_lt hl)] at h
    cases h
theorem am_set_spec {lv : List (Option Value)} {i j : Nat} {v w : Value} (h : (am_set lv i v)[j]? = some (some w)) : (j = i ∧ w = v) ∨ (j ≠ i ∧ lv[j]? = some (some w) ∧ ¬ (j + 1 = i ∧ w.category = 2)) := by
  unfold am_set at h
  by_cases hji : j = i
  · subst hji
    exact Or.inl ⟨rfl, Option.some.inj (am_gs h)⟩
  · right
    rw [List.getElem?_set_ne (Ne.symm hji)] at h
    refine ⟨hji, ?_⟩
    cases i with
    | zero => exact ⟨h, fun q => by omega⟩
    | succ k =>
      simp only at h
      by_cases hjk : j = k
      · subst hjk
        split at h
        · rename_i x hx
          cases am_gs h
        · rename_i x hx
          cases am_gs h
        · rename_i h1 h2
          refine ⟨h, fun q => ?_⟩
          cases w with
          | long x => exact h1 x h
          | double x => exact h2 x h
          | _ => cases q.2
      · refine ⟨?_, fun q => by omega⟩
        split at h
        · rwa [List.getElem?_set_ne (Ne.symm hjk)] at h
        · rwa [List.getElem?_set_ne (Ne.symm hjk)] at h
        · exact h
theorem am_L_set1 {b base nL : Nat} {lv : List (Option Value)} {ls : Array Slot} (h : am_L b base nL lv ls) {i : Nat} {v : Value} {ls' : Array Slot}
    (h' : lv_has ls' nL ((i, am_v b base v) :: (am_as b base lv).filter (fun q => !(q.1 == i) && !(q.1 + 1 == i && q.2.category == 2)))) : am_L b base nL (am_set lv i v) ls' := by
  refine ⟨h'.1, h'.2.1, fun j w hj => ?_⟩
  rcases am_set_spec hj with ⟨rfl, rfl⟩ | ⟨h1, h2, h3⟩
  · exact h'.2.2 (j, am_v b base w) List.mem_cons_self
  · refine h'.2.2 (j, am_v b base w) (List.mem_cons_of_mem _ (List.mem_filter.mpr ⟨am_as_mem.mpr ⟨w, h2, rfl⟩, ?_⟩))
    simp only [am_v_cat]
    simp only [Bool.and_eq_true, Bool.not_eq_true', beq_eq_false_iff_ne, ne_eq, Bool.and_eq_false_iff]
    refine ⟨h1, ?_⟩
    by_cases hq : j + 1 = i
    · exact Or.inr (fun z => h3 ⟨hq, z⟩)
    · exact Or.inl hq
theorem am_L_set2 {b base nL : Nat} {lv : List (Option Value)} {ls : Array Slot} (h : am_L b base nL lv ls) {i : Nat} {v : Value} {ls' : Array Slot}
    (h' : lv_has ls' nL ((i, am_v b base v) :: (am_as b base lv).filter (fun q => !(q.1 == i) && (!(q.1 == i + 1) && !(q.1 + 1 == i && q.2.category == 2))))) : am_L b base nL (am_setl lv i v) ls' := by
  refine ⟨h'.1, h'.2.1, fun j w hj => ?_⟩
  rcases am_set_spec hj with ⟨rfl, rfl⟩ | ⟨h1, h2, h3⟩
  · exact h'.2.2 (j, am_v b base w) List.mem_cons_self
  · have h4 : j ≠ i + 1 := by
      intro q
      subst q
      cases am_gs h2
    rw [List.getElem?_set_ne (Ne.symm h4)] at h2
    refine h'.2.2 (j, am_v b base w) (List.mem_cons_of_mem _ (List.mem_filter.mpr ⟨am_as_mem.mpr ⟨w, h2, rfl⟩, ?_⟩))
    simp only [am_v_cat]
    simp only [Bool.and_eq_true, Bool.not_eq_true', beq_eq_false_iff_ne, ne_eq, Bool.and_eq_false_iff]
    refine ⟨h1, h4, ?_⟩
    by_cases hq : j + 1 = i
    · exact Or.inr (fun z => h3 ⟨hq, z⟩)
    · exact Or.inl hq
/-- the arguments in their places -/
def am_en : List Value → List (Option Value)
  | [] => []
  | v :: vs => some v :: (if v.category = 2 then none :: am_en vs else am_en vs)
def am_ent (nL : Nat) (As : List Value) : List (Option Value) := am_en As ++ List.replicate (nL - (am_en As).length) none
theorem am_en_mem (b base : Nat) : ∀ (As : List Value) (o i : Nat) (v : Value), (am_en As)[i]? = some (some v) → (o + i, am_v b base v) ∈ lv_args o (As.map (am_v b base))
  | [], o, i, v, h => by simp [am_en] at h
  | a :: As, o, i, v, h => by
    simp only [am_en] at h
    rw [List.map_cons, lv_args]
    cases i with
    | zero =>
      rw [List.getElem?_cons_zero] at h
      cases h
      exact List.mem_cons_self
    | succ i =>
      rw [List.getElem?_cons_succ] at h
      refine List.mem_cons_of_mem _ ?_
      rw [am_v_cat]
      by_cases hc : a.category = 2
      · rw [if_pos hc] at h ⊢
        cases i with
        | zero => rw [List.getElem?_cons_zero] at h; cases h
        | succ i =>
          rw [List.getElem?_cons_succ] at h
          have := am_en_mem b base As (o + 2) i v h
          rwa [show o + 2 + i = o + (i + 1 + 1) by omega] at this
      · rw [if_neg hc] at h ⊢
        have := am_en_mem b base As (o + 1) i v h
        rwa [show o + 1 + i = o + (i + 1) by omega] at this
theorem am_L_ent {b base nL : Nat} {As : List Value} (hl : (lg_sl (As.map (am_v b base))).length ≤ nL) :
    am_L b base nL (am_ent nL As) ((lg_sl (As.map (am_v b base)) ++ List.replicate (nL - (lg_sl (As.map (am_v b base))).length) Slot.unset).toArray) := by
  have h := lv_entry (As.map (am_v b base)) hl
  refine ⟨h.1, h.2.1, fun i v hi => ?_⟩
  unfold am_ent at hi
  by_cases hlt : i < (am_en As).length
  · rw [List.getElem?_append_left hlt] at hi
    have := h.2.2 _ (am_en_mem b base As 0 i v hi)
    simpa using this
  · rw [List.getElem?_append_right (by omega), List.getElem?_replicate] at hi
    split at hi <;> cases hi

/-! rules that read and write the heap -/
theorem am_up0 {h : Nat → am_E} {k : Nat} {e : am_E} : va_up h (k + 1) e 0 = h 0 := va_up_ne h e (by omega)
theorem am_obj {b base L n a ci : Nat} {xs : Nat → Int32} {D : va_G} {cA : Nat → ClassId} {h : Nat → am_E} {H : Heap} {fs : List Value} {r : vw_C} (h0 : h 0 = .inl (0, L, xs)) (hH : am_Hp b base D cA h n H) (he : h a = .inr (.inr (ci, fs))) (hc : vwCl[ci]? = some r) :
    ∃ k, a = k + 1 ∧ k < n ∧ va_at D vwCl (base + k, .inr (ci, fs.map (am_v b base))) H := by
  cases a with
  | zero => rw [h0] at he; cases he
  | succ k =>
    by_cases hk : k < n
    · have := hH.2.1 k hk
      rw [he] at this
      exact ⟨k, rfl, hk, this⟩
    · rw [hH.2.2 k (by omega)] at he
      cases he
      cases hc
theorem am_arr {b base n a t N : Nat} {D : va_G} {cA : Nat → ClassId} {h : Nat → am_E} {H : Heap} {f : Nat → Int32} (hH : am_Hp b base D cA h n H) (ha : 0 < a) (he : h a = .inl (t, N, f)) :
    ∃ k, a = k + 1 ∧ k < n ∧ H[base + k]? = some (vp_cell (cA t) (N, .inl f)) := by
  cases a with
  | zero => omega
  | succ k =>
    by_cases hk : k < n
    · have := hH.2.1 k hk
      rw [he] at this
      exact ⟨k, rfl, hk, this⟩
    · rw [hH.2.2 k (by omega)] at he
      cases he
theorem am_rar {b base L n a N : Nat} {xs : Nat → Int32} {D : va_G} {cA : Nat → ClassId} {h : Nat → am_E} {H : Heap} {f : Nat → Option Nat} (h0 : h 0 = .inl (0, L, xs)) (hH : am_Hp b base D cA h n H) (he : h a = .inr (.inl (N, f))) :
    ∃ k, a = k + 1 ∧ k < n ∧ H[base + k]? = some (vp_cell (cA 2) (N, .inr (.inr (.inr (.inr (fun i => (f i).map (am_ad b base))))))) := by
  cases a with
  | zero => rw [h0] at he; cases he
  | succ k =>
    by_cases hk : k < n
    · have := hH.2.1 k hk
      rw [he] at this
      exact ⟨k, rfl, hk, this⟩
    · rw [hH.2.2 k (by omega)] at he
      cases he
theorem am_Hp_set {b base n k : Nat} {D : va_G} {cA : Nat → ClassId} {h : Nat → am_E} {H H1 : Heap} {e : am_E} (hH : am_Hp b base D cA h n H) (hk : k < n) (he : va_at D vwCl (base + k, am_e b base cA e) H1) (z : H1.size = H.size) (oq : ∀ q : Nat, q ≠ base + k → H1[q]? = H[q]?) : am_Hp b base D cA (va_up h (k + 1) e) n H1 := by
  refine ⟨z.trans hH.1, fun j hj => ?_, fun j hj => ?_⟩
  · by_cases hjk : j = k
    · subst hjk
      rw [va_up_self]
      exact he
    · rw [va_up_ne h e (by omega)]
      exact (hH.2.1 j hj).kept (oq _ (by show base + j ≠ base + k; omega))
  · rw [va_up_ne h e (by omega)]
    exact hH.2.2 j hj
theorem am_Hp_push {b base n : Nat} {D : va_G} {cA : Nat → ClassId} {h : Nat → am_E} {H H1 : Heap} {e : am_E} (hH : am_Hp b base D cA h n H) (he : va_at D vwCl (base + n, am_e b base cA e) H1) (z : H1.size = H.size + 1) (oq : ∀ q : Nat, q < H.size → H1[q]? = H[q]?) : am_Hp b base D cA (va_up h (n + 1) e) (n + 1) H1 := by
  have hz := hH.1
  refine ⟨by omega, fun j hj => ?_, fun j hj => ?_⟩
  · by_cases hjk : j = n
    · subst hjk
      rw [va_up_self]
      exact he
    · rw [va_up_ne h e (by omega)]
      exact (hH.2.1 j (by omega)).kept (oq _ (by show base + j < H.size; omega))
  · rw [va_up_ne h e (by omega)]
    exact hH.2.2 j (by omega)
theorem am_S_push {base : Nat} {H0 H H1 : Heap} {locs : List Loc} (hS : va_S (fun q => base ≤ q) H0 H locs) (z : H1.size = H.size + 1) (oq : ∀ q : Nat, q < H.size → H1[q]? = H[q]?) : va_S (fun q => base ≤ q) H0 H1 locs :=
  ⟨by have := hS.1; omega, fun q h1 h2 => (oq q (Nat.lt_of_lt_of_le h1 hS.1)).trans (hS.2.1 q h1 h2), hS.2.2⟩
def am_gf (M : am_M) (idx ci k : Nat) : Prop := ∃ (C : String) (T : u_T) (N : Nat) (ref : String), vwCl[ci]? = some (C, T, N) ∧ k < N ∧ (∀ w ∈ u_ws C T N, w ∈ am_T) ∧ Cond.fieldLink (am_y M).cls idx ref (T k).2.1 (T k).2.2.1 ∈ am_T ∧ (ref = (T k).1 ∨ Cond.sameField ref (T k).1 (T k).2.1 (T k).2.2.1 ∈ am_T)
def am_pf (M : am_M) (idx ci k : Nat) (ty : FieldType) : Prop := ∃ (C : String) (T : u_T) (N : Nat) (ty0 : Nat → FieldType), vwCl[ci]? = some (C, T, N) ∧ k < N ∧ (∀ w ∈ u_ws C T N, w ∈ am_T) ∧ (∀ k, k < N → parseFieldDescriptor (T k).2.2.1 = some (ty0 k)) ∧ (∀ a, a < N → ∀ b, b < N → a ≠ b → (T a).2.1 ≠ (T b).2.1) ∧ Cond.fieldLink (am_y M).cls idx (T k).1 (T k).2.1 (T k).2.2.1 ∈ am_T ∧ parseFieldDescriptor (T k).2.2.1 = some ty ∧ ((T k).2.2.2 = false ∨ ((T k).2.2.2 = true ∧ (am_y M).name = "<init>" ∧ (T k).1 = (am_y M).cls))
section AMH
variable {M : am_M} {Q : am_P} {pc : Nat} {lv : List (Option Value)} {st : List Value} {h : Nat → am_E} {n cu su : Nat}
theorem r_getf (pc' : Nat) (hp : pc + 3 = pc') {idx ci k a : Nat} {fs : List Value} {v : Value} (hd : decode (am_c M) pc = .ok (.getfield idx, 3)) (hg : am_gf M idx ci k) (he : h a = .inr (.inr (ci, fs))) (hv : fs[k]? = some v) (kk : AW M Q pc' lv (v :: st) h n cu su) : AW M Q pc lv (.ref a :: st) h n cu su := by
  subst hp
  intro l b base L xs D cA p e s m args below meth c H locs ls hC h0 hH hS hL
  obtain ⟨C, T, N, ref, hc, hk, hin, hl, hs⟩ := hg
  obtain ⟨k0, rfl, hk0, hat⟩ := am_obj h0 hH he hc
  have hP : va_P D vwCl [(base + k0, .inr (ci, fs.map (am_v b base)))] H := fun j q hj => by
    have hz : j < 1 := (List.getElem?_eq_some_iff.mp hj).1
    rw [show j = 0 by omega] at hj
    cases hj
    exact hat
  have hts := hC.2.2.2.2.2.2.2.1
  refine va_get hC.1 hC.2.1 hts hin hC.2.2.2.2.2.1 hC.2.2.2.2.2.2.2.2.1.1 hP 0 rfl hc k hk (hts _ hl) ?_ (v := am_v b base v) (by rw [List.getElem?_map, hv]; rfl) hd (kk l b base L xs D cA p e s m args below meth c H locs ls hC h0 hH hS hL)
  intro x hx
  rcases hs with rfl | hs
  · exact hx
  · exact u_same (hts _ hs) x hx
theorem r_putf (pc' : Nat) (hp : pc + 3 = pc') {idx ci k a : Nat} {ty : FieldType} {fs : List Value} {v : Value} (fs' : List Value) (hd : decode (am_c M) pc = .ok (.putfield idx, 3)) (hg : am_pf M idx ci k ty) (he : h a = .inr (.inr (ci, fs))) (hl : k < fs.length) (hf : fs.set k v = fs') (hv : ∀ b base, narrow ty (am_v b base v) = am_v b base v ∧ fits ty (am_v b base v) = true)
    (kk : AW M Q pc' lv st (va_up h a (.inr (.inr (ci, fs')))) n cu su) : AW M Q pc lv (v :: .ref a :: st) h n cu su := by
  subst hp
  subst hf
  intro l b base L xs D cA p e s m args below meth c H locs ls hC h0 hH hS hL
  obtain ⟨C, T, N, ty0, hc, hk, hin, hty, hnm, hlk, hpd, hfin⟩ := hg
  obtain ⟨k0, rfl, hk0, hat⟩ := am_obj h0 hH he hc
  have hts := hC.2.2.2.2.2.2.2.1
  have hK := hC.2.2.2.2.2.2.2.2.1.1
  have hown := hC.2.2.2.2.2.1
  have hap := va_apart (own := (am_y M).cls) hts hin ty0 hty hnm hK hc
  obtain ⟨r, h1, cell, q1, q2, q3, q4⟩ := hat
  have hr : r = (C, T, N) := Option.some.inj (h1.symm.trans hc)
  subst hr
  obtain ⟨hSl, hfc, kC, hkC, hkind⟩ := hK.1 ci _ hc
  obtain ⟨cf, kf, fi, f, hi, hsl⟩ := hSl k hk
  have hlay := hts _ (hin _ (u_in_lay hk))
  unfold u_lay at hlay
  have hst := (u_facts hfc hkC (u_lays hts hin hk) hi).1
  have fin : ∀ (H1 : Heap), H1[base + k0]? = some (cell.setSlot f.slot (am_v b base v)) → H1.size = H.size → (∀ q, q ≠ base + k0 → H1[q]? = H[q]?) → W p l e (am_rm M) s m args below meth c H1 (locs ++ [⟨base + k0, f.slot⟩]) cu su (MQ below (am_Q b base L xs D cA Q) args s (am_mc M) (am_ms M) (fun q => base ≤ q)) (F0 m (pc + 3) ls (st.map (am_v b base))) := by
    intro H1 e1 e2 e3
    refine kk l b base L xs D cA p e s m args below meth c H1 _ ls hC ?_ ?_ ?_ hL
    · rw [am_up0]; exact h0
    · refine am_Hp_set hH hk0 ?_ e2 e3
      refine ⟨_, hc, t_OB.to (V := updV (vp_V (fs.map (am_v b base))) k (am_v b base v)) ⟨_, e1, q2, q3, ?_⟩ (fun j _ => ?_)⟩
      · rw [hsl]
        exact t_set q4 hap hk _
      · have := vp_updV_set (fs := fs.map (am_v b base)) (by simpa using hl) (am_v b base v) j
        rw [this, List.map_set]
    · exact hS.put e2 e3 (Nat.le_add_right base k0)
  rcases hfin with hfin | ⟨hfin, hin2, hdecl⟩
  · rw [if_neg (by rw [hfin]; decide)] at hlay
    have h6 := u_store hfc hkC hkind hlay hi hpd (hv b base).1 (hv b base).2
    exact W.putK hC.1 hC.2.1 (f := f) ⟨hown, hts _ hlk, ⟨_, _, _, hi⟩, hst⟩ (by rw [q2]; exact h6) q1 q3 (by rw [hsl]; exact k2_hasslot (q4 k hk)) rfl rfl hd fin
  · rw [if_pos hfin] at hlay
    have hcf : m.cls = cf := by
      obtain ⟨_, _, c', _, _, _, -, -, hf', -, -, -, hown2, -⟩ := Cond.laysFinal_spec hlay
      have e1 : c' = cf := by have := hi.symm.trans hf'; simp at this; exact this.1.symm
      rw [hdecl] at hown2
      rw [← e1]; exact Option.some.inj (hown.symm.trans hown2)
    have h6 := u_fits hfc hkC hkind (Or.inr hlay) hi hpd (hv b base).1 (hv b base).2
    exact W.putFinK hC.1 hC.2.1 hown (hts _ hlk) hi hst hcf (hC.2.2.2.2.2.2.1.trans hin2) (by rw [q2]; exact h6) q1 q3 (by rw [hsl]; exact k2_hasslot (q4 k hk)) rfl rfl hd fin
theorem am_ix {i : Int32} {j N : Nat} (hi : i = nI j) (hj : j < N) (hN : N < 2 ^ 31) : vp_in i N ∧ i.toNatClampNeg = j := by
  subst hi
  exact ⟨vp_in_nI hj hN, nI_clamp (by omega)⟩
theorem r_iald (pc' : Nat) (hp : pc + 1 = pc') {a N : Nat} {f : Nat → Int32} {i : Int32} (j : Nat) (hd : decode (am_c M) pc = .ok (.iaload, 1)) (he : h a = .inl (0, N, f)) (hi : i = nI j) (hj : j < N) (hN : N < 2 ^ 31) (kk : AW M Q pc' lv (.int (f j) :: st) h n cu su) : AW M Q pc lv (.int i :: .ref a :: st) h n cu su := by
  subst hp
  intro l b base L xs D cA p e s m args below meth c H locs ls hC h0 hH hS hL
  obtain ⟨hin, hcl⟩ := am_ix hi hj hN
  have K := kk l b base L xs D cA p e s m args below meth c H locs ls hC h0 hH hS hL
  cases a with
  | zero =>
    rw [h0] at he
    cases he
    rw [← hcl] at K
    exact va_sld hC.1 hC.2.1 hC.2.2.2.2.2.2.2.2.2.1 (Nat.lt_of_lt_of_le hC.2.2.2.2.2.2.2.2.2.2.1 hC.2.2.2.2.2.2.2.2.2.2.2) (Nat.not_le.mpr hC.2.2.2.2.2.2.2.2.2.2.1) hS hin hd K
  | succ k0 =>
    obtain ⟨k, hk1, hk, hat⟩ := am_arr hH (Nat.succ_pos k0) he
    cases hk1
    have hP : va_P D vwCl [(base + k0, .inl (cA 0, N, .inl f))] H := fun j q hj => by
      have hz : j < 1 := (List.getElem?_eq_some_iff.mp hj).1
      rw [show j = 0 by omega] at hj
      cases hj
      exact hat
    rw [← hcl] at K
    exact va_iald hC.1 hC.2.1 hC.2.2.2.2.2.2.2.2.1.1 hP 0 0 rfl rfl hin hd K
theorem r_zald (pc' : Nat) (hp : pc + 1 = pc') {a N : Nat} {f : Nat → Int32} {i : Int32} (j : Nat) (hd : decode (am_c M) pc = .ok (.baload, 1)) (ha : 0 < a) (he : h a = .inl (1, N, f)) (hi : i = nI j) (hj : j < N) (hN : N < 2 ^ 31) (kk : AW M Q pc' lv (.int (f j) :: st) h n cu su) : AW M Q pc lv (.int i :: .ref a :: st) h n cu su := by
  subst hp
  intro l b base L xs D cA p e s m args below meth c H locs ls hC h0 hH hS hL
  obtain ⟨hin, hcl⟩ := am_ix hi hj hN
  have K := kk l b base L xs D cA p e s m args below meth c H locs ls hC h0 hH hS hL
  obtain ⟨k, rfl, hk, hat⟩ := am_arr hH ha he
  have hP : va_P D vwCl [(base + k, .inl (cA 1, N, .inl f))] H := fun j q hj => by
    have hz : j < 1 := (List.getElem?_eq_some_iff.mp hj).1
    rw [show j = 0 by omega] at hj
    cases hj
    exact hat
  rw [← hcl] at K
  exact va_zald hC.1 hC.2.1 hC.2.2.2.2.2.2.2.2.1.1 hP 0 1 rfl rfl hin hd K
theorem r_iast (pc' : Nat) (hp : pc + 1 = pc') {a N : Nat} {f : Nat → Int32} {i x : Int32} (j : Nat) (hd : decode (am_c M) pc = .ok (.iastore, 1)) (ha : 0 < a) (he : h a = .inl (0, N, f)) (hi : i = nI j) (hj : j < N) (hN : N < 2 ^ 31) (kk : AW M Q pc' lv st (va_up h a (.inl (0, N, upd f j x))) n cu su) : AW M Q pc lv (.int x :: .int i :: .ref a :: st) h n cu su := by
  subst hp
  intro l b base L xs D cA p e s m args below meth c H locs ls hC h0 hH hS hL
  obtain ⟨hin, hcl⟩ := am_ix hi hj hN
  obtain ⟨k, rfl, hk, hat⟩ := am_arr hH ha he
  refine W.iast hC.1 hC.2.1 hat ((hC.2.2.2.2.2.2.2.2.1.1.2 0 _ rfl).1 N (fun j => .int (f j))) (fun q => by cases q) (by show ¬ (i < 0 ∨ (arrV _ _ _).slots.size ≤ _); rw [arrV_size]; exact hin) rfl rfl hd fun H1 e1 z oq => ?_
  refine kk l b base L xs D cA p e s m args below meth c H1 _ ls hC (by rw [am_up0]; exact h0) (am_Hp_set hH hk ?_ z oq) (hS.put z oq (Nat.le_add_right base k)) hL
  show H1[base + k]? = some (vp_cell _ _)
  rw [e1]
  rw [vp_cell_i, vp_cell_i, arrV_store]
  congr 2
  funext q
  rw [hcl]
  by_cases hq : q = j
  · subst hq
    simp [updV, upd]
  · simp [updV, upd, hq]
theorem r_zast (pc' : Nat) (hp : pc + 1 = pc') {a N : Nat} {f : Nat → Int32} {i x : Int32} (j : Nat) (hd : decode (am_c M) pc = .ok (.bastore, 1)) (ha : 0 < a) (he : h a = .inl (1, N, f)) (hi : i = nI j) (hj : j < N) (hN : N < 2 ^ 31) (hx : narrow .boolean (.int x) = .int x) (kk : AW M Q pc' lv st (va_up h a (.inl (1, N, upd f j x))) n cu su) : AW M Q pc lv (.int x :: .int i :: .ref a :: st) h n cu su := by
  subst hp
  intro l b base L xs D cA p e s m args below meth c H locs ls hC h0 hH hS hL
  obtain ⟨hin, hcl⟩ := am_ix hi hj hN
  obtain ⟨k, rfl, hk, hat⟩ := am_arr hH ha he
  refine W.zast hC.1 hC.2.1 hat ((hC.2.2.2.2.2.2.2.2.1.1.2 1 _ rfl).1 N (fun j => .int (f j))) (fun q => by cases q) (by show ¬ (i < 0 ∨ (arrV _ _ _).slots.size ≤ _); rw [arrV_size]; exact hin) rfl rfl hd fun H1 e1 z oq => ?_
  refine kk l b base L xs D cA p e s m args below meth c H1 _ ls hC (by rw [am_up0]; exact h0) (am_Hp_set hH hk ?_ z oq) (hS.put z oq (Nat.le_add_right base k)) hL
  show H1[base + k]? = some (vp_cell _ _)
  rw [e1, hx]
  rw [vp_cell_i, vp_cell_i, arrV_store]
  congr 2
  funext q
  rw [hcl]
  by_cases hq : q = j
  · subst hq
    simp [updV, upd]
  · simp [updV, upd, hq]
theorem r_alen (pc' : Nat) (hp : pc + 1 = pc') {a N : Nat} {f : Nat → Int32} (hd : decode (am_c M) pc = .ok (.arraylength, 1)) (he : h a = .inl (0, N, f)) (kk : AW M Q pc' lv (.int (nI N) :: st) h n cu su) : AW M Q pc lv (.ref a :: st) h n cu su := by
  subst hp
  intro l b base L xs D cA p e s m args below meth c H locs ls hC h0 hH hS hL
  have K := kk l b base L xs D cA p e s m args below meth c H locs ls hC h0 hH hS hL
  cases a with
  | zero =>
    rw [h0] at he
    cases he
    exact va_slen hC.1 hC.2.1 hC.2.2.2.2.2.2.2.2.2.1 (Nat.lt_of_lt_of_le hC.2.2.2.2.2.2.2.2.2.2.1 hC.2.2.2.2.2.2.2.2.2.2.2) (Nat.not_le.mpr hC.2.2.2.2.2.2.2.2.2.2.1) hS hd K
  | succ k0 =>
    obtain ⟨k, hk1, hk, hat⟩ := am_arr hH (Nat.succ_pos k0) he
    cases hk1
    have hP : va_P D vwCl [(base + k0, .inl (cA 0, N, .inl f))] H := fun j q hj => by
      have hz : j < 1 := (List.getElem?_eq_some_iff.mp hj).1
      rw [show j = 0 by omega] at hj
      cases hj
      exact hat
    exact va_alen hC.1 hC.2.1 hC.2.2.2.2.2.2.2.2.1.1 hP 0 0 rfl rfl rfl hd K
/-- a reference out of a row of references -/
def am_rf : Option Nat → Value
  | none => .null
  | some k => .ref k
theorem r_aald (pc' : Nat) (hp : pc + 1 = pc') {a N : Nat} {f : Nat → Option Nat} {i : Int32} (j : Nat) (v : Value) (hd : decode (am_c M) pc = .ok (.aaload, 1)) (he : h a = .inr (.inl (N, f))) (hi : i = nI j) (hj : j < N) (hN : N < 2 ^ 31) (hv : am_rf (f j) = v) (kk : AW M Q pc' lv (v :: st) h n cu su) : AW M Q pc lv (.int i :: .ref a :: st) h n cu su := by
  subst hp
  subst hv
  intro l b base L xs D cA p e s m args below meth c H locs ls hC h0 hH hS hL
  obtain ⟨hin, hcl⟩ := am_ix hi hj hN
  have K := kk l b base L xs D cA p e s m args below meth c H locs ls hC h0 hH hS hL
  obtain ⟨k, rfl, hk, hat⟩ := am_rar h0 hH he
  have hP : va_P D vwCl [(base + k, .inl (cA 2, N, .inr (.inr (.inr (.inr (fun i => (f i).map (am_ad b base)))))))] H := fun j q hj => by
    have hz : j < 1 := (List.getElem?_eq_some_iff.mp hj).1
    rw [show j = 0 by omega] at hj
    cases hj
    exact hat
  refine va_aldq hC.1 hC.2.1 hC.2.2.2.2.2.2.2.2.1.1 hP 0 2 (C := am_S) rfl rfl hin hd ?_
  have e1 : va_rf ((fun i => (f i).map (am_ad b base)) i.toNatClampNeg) = am_v b base (am_rf (f j)) := by
    rw [hcl]
    show va_rf ((f j).map _) = _
    cases f j <;> rfl
  rw [e1]
  exact K
/-- which objects a row of Sources may hold -/
def am_sc (ci : Nat) : Bool := ci == 1 || ci == 2 || ci == 4 || ci == 6 || ci == 8
theorem r_aast (pc' : Nat) (hp : pc + 1 = pc') {a N q ci : Nat} {fs : List Value} {f : Nat → Option Nat} {i : Int32} (j : Nat) (hd : decode (am_c M) pc = .ok (.aastore, 1)) (he : h a = .inr (.inl (N, f))) (hi : i = nI j) (hj : j < N) (hN : N < 2 ^ 31) (hq : h q = .inr (.inr (ci, fs))) (hci : am_sc ci = true) (kk : AW M Q pc' lv st (va_up h a (.inr (.inl (N, va_up f j (some q))))) n cu su) : AW M Q pc lv (.ref q :: .int i :: .ref a :: st) h n cu su := by
  subst hp
  intro l b base L xs D cA p e s m args below meth c H locs ls hC h0 hH hS hL
  obtain ⟨hin, hcl⟩ := am_ix hi hj hN
  have hlt : i.toNatClampNeg < N := by rw [hcl]; exact hj
  have hn0 : ¬ i < 0 := fun q => hin (Or.inl q)
  obtain ⟨k, rfl, hk, hat⟩ := am_rar h0 hH he
  have hK := hC.2.2.2.2.2.2.2.2.1
  obtain ⟨kA, comp, k1, k2, k3, -⟩ := (hK.1.2 2 _ rfl).2
  obtain ⟨kE, hkE, -⟩ := Vm.findClass_spec k3
  have hsc : ∃ r : vw_C, vwCl[ci]? = some r ∧ (r.1 = am_S ∨ (r.1, am_S) ∈ am_ca) := by
    simp only [am_sc, Bool.or_eq_true, beq_iff_eq] at hci
    rcases hci with (((rfl | rfl) | rfl) | rfl) | rfl
    · exact ⟨_, rfl, Or.inr (by decide +kernel)⟩
    · exact ⟨_, rfl, Or.inr (by decide +kernel)⟩
    · exact ⟨_, rfl, Or.inl rfl⟩
    · exact ⟨_, rfl, Or.inr (by decide +kernel)⟩
    · exact ⟨_, rfl, Or.inr (by decide +kernel)⟩
  obtain ⟨r, hr, hrs⟩ := hsc
  obtain ⟨kq, rfl, hkq, hatq⟩ := am_obj h0 hH hq hr
  obtain ⟨r', hr', cellV, g1, g2, g3, -⟩ := hatq
  obtain ⟨hfc, kC, hkC, hkind⟩ := (hK.1.1 ci r hr).2
  have hasg : s.vm.assignable (D.1 ci) comp = true := by
    rcases hrs with h1 | h1
    · rw [h1] at hfc
      have hcomp : comp = D.1 ci := Option.some.inj (k3.symm.trans hfc)
      rw [hcomp]
      exact va_assign ⟨hfc, kC, hkC, hkind⟩
    · obtain ⟨c0, t0, f1, f2, f3⟩ := Cond.castable_spec (va_Nw.use (A := args) rfl (hK.2.2.1 _ h1))
      have e1 : c0 = D.1 ci := Option.some.inj (f1.symm.trans hfc)
      have e2 : t0 = comp := Option.some.inj (f2.symm.trans k3)
      rw [← e1, ← e2]
      exact f3
  refine W.aast hC.1 hC.2.1 hat (fun q h => by cases h) (fun h => by cases h) k1 k2 rfl hkE ⟨hn0, by show _ < (arrV _ _ _).slots.size; rw [arrV_size]; exact hlt⟩ g1 (fun q h => by rw [g3] at h; cases h) (by rw [g2]; exact hkC) (by rw [g2]; exact hasg) rfl rfl hd fun H1 e1 z oq => ?_
  refine kk l b base L xs D cA p e s m args below meth c H1 _ ls hC (by rw [am_up0]; exact h0) (am_Hp_set hH hk ?_ z oq) (hS.put z oq (Nat.le_add_right base k)) hL
  show H1[base + k]? = some (vp_cell _ _)
  rw [e1]
  rw [vp_cell_q, vp_cell_q, arrV_store]
  congr 2
  funext q
  rw [hcl]
  by_cases hq : q = j
  · subst hq
    simp [updV, va_up, va_rf, am_ad]
  · simp [updV, va_up, hq]
end AMH

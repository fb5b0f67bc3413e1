/-! new cells, instanceof, arraycopy, calls -/
theorem am_acI : Cond.arrayClass .int ∈ am_T := am_in (List.mem_of_getElem? (i := 88) (by decide +kernel)) rfl
theorem am_acZ : Cond.arrayClass .boolean ∈ am_T := am_in (List.mem_of_getElem? (i := 164) (by decide +kernel)) rfl
theorem am_oi : Cond.instanceMethod objectInit ∈ am_T := am_in (List.mem_of_getElem? (i := 70) (by decide +kernel)) rfl
theorem am_oc : Cond.code objectInit ⟨#[0xb1]⟩ 1 none ∈ am_T := am_in (List.mem_of_getElem? (i := 71) rfl) rfl
theorem am_cpn : Cond.native arraycopyName ∈ am_T := am_in (List.mem_of_getElem? (i := 283) (by decide +kernel)) rfl
theorem am_cps : Cond.static arraycopyName ∈ am_T := am_in (List.mem_of_getElem? (i := 282) (by decide +kernel)) rfl
theorem am_cpi : Cond.initialized "java/lang/System" ∈ am_T := am_in (List.mem_of_getElem? (i := 56) (by decide +kernel)) rfl
def am_nf (M : am_M) (idx ci N : Nat) (fs : List Value) : Prop := ∃ (C : String) (T : u_T) (ty : Nat → FieldType), vwCl[ci]? = some (C, T, N) ∧ (∀ w ∈ u_ws C T N, w ∈ am_T) ∧ (∀ k, k < N → parseFieldDescriptor (T k).2.2.1 = some (ty k)) ∧ Cond.classLink (am_y M).cls idx C ∈ am_T ∧ Cond.instantiable C N ∈ am_T ∧ Cond.initialized C ∈ am_T ∧ (∀ j, j < N → defaultValue (ty j) = vp_V fs j) ∧ ∀ b base, fs.map (am_v b base) = fs
/-- the receiver's cell -/
theorem am_rcv {D : va_G} {cA : Nat → ClassId} {s : State} {H : Heap} {a ci : Nat} {fs : List Value} {r : vw_C} (hK : am_K D cA s) (hr : vwCl[ci]? = some r) (hat : va_at D vwCl (a, .inr (ci, fs)) H) : ∃ cell : Cell, H[a]? = some cell ∧ cell.vm.isStatics = false ∧ s.vm.findClass r.1 = some cell.cls := by
  obtain ⟨r', hr', cell, g1, g2, g3, -⟩ := hat
  exact ⟨cell, g1, by rw [g3]; rfl, by rw [g2]; exact (hK.1.1 ci r hr).2.1⟩
section AMC
variable {M : am_M} {Q : am_P} {pc : Nat} {lv : List (Option Value)} {st : List Value} {h : Nat → am_E} {n cu su : Nat}
theorem r_new (pc' : Nat) (hp : pc + 3 = pc') {idx ci N : Nat} {fs : List Value} (hd : decode (am_c M) pc = .ok (.new idx, 3)) (hf : am_nf M idx ci N fs) (hcu : cu + 1 ≤ am_mc M) (hsu : su + N ≤ am_ms M) (kk : AW M Q pc' lv (.ref (n + 1) :: st) (va_up h (n + 1) (.inr (.inr (ci, fs)))) (n + 1) (cu + 1) (su + N)) : AW M Q pc lv st h n cu su := by
  subst hp
  intro l b base L xs D cA p e s m args below meth c H locs ls hC h0 hH hS hL
  obtain ⟨C, T, ty, hc, hin, hty, hcl, hins, hini, hfs, hid⟩ := hf
  have hts := hC.2.2.2.2.2.2.2.1
  have hKn := hC.2.2.2.2.2.2.2.2.1.1.1 ci _ hc
  have hsz := hH.1
  refine W.newcK hC.1 hC.2.1 hC.2.2.2.2.2.1 (hts _ hcl) (hts _ hins) (hts _ hini) rfl hd hcu hsu hKn.2.1 hsz fun H1 kC hkC e1 z1 o1 => ?_
  refine kk l b base L xs D cA p e s m args below meth c H1 locs ls hC (by rw [am_up0]; exact h0) (am_Hp_push hH ?_ (by rw [z1, hsz]) (fun q hq => o1 q (by rw [← hsz]; exact hq))) (am_S_push hS (by rw [z1, hsz]) (fun q hq => o1 q (by rw [← hsz]; exact hq))) hL
  refine ⟨_, hc, ?_⟩
  show t_OB (base + n) _ _ _ H1 (vp_V (fs.map (am_v b base)))
  rw [hid]
  exact (u_born ty hts hin hKn hkC e1 hty).to hfs
theorem r_newaI (pc' : Nat) (hp : pc + 2 = pc') (N : Nat) {i : Int32} (hd : decode (am_c M) pc = .ok (.newarray .int, 2)) (hi : i = nI N) (hN : N ≤ 1000) (hcu : cu + 1 ≤ am_mc M) (hsu : su + N ≤ am_ms M) (kk : AW M Q pc' lv (.ref (n + 1) :: st) (va_up h (n + 1) (.inl (0, N, fun _ => 0))) (n + 1) (cu + 1) (su + N)) : AW M Q pc lv (.int i :: st) h n cu su := by
  subst hp
  subst hi
  intro l b base L xs D cA p e s m args below meth c H locs ls hC h0 hH hS hL
  have hts := hC.2.2.2.2.2.2.2.1
  have hsz := hH.1
  refine va_newaK (atype := .int) hC.1 hC.2.1 (hts _ am_acI) rfl hd rfl (nI_pos (by omega)) (nI_clamp (by omega)) (by show N * 4 ≤ _; omega) hcu hsu hsz fun H1 cA' e1 z1 o1 hAr hNm => ?_
  have hcA : cA' = cA 0 := Option.some.inj (hNm.symm.trans (hC.2.2.2.2.2.2.2.2.1.1.2 0 _ rfl).2)
  subst hcA
  exact kk l b base L xs D cA p e s m args below meth c H1 locs ls hC (by rw [am_up0]; exact h0) (am_Hp_push hH (show H1[base + n]? = some (vp_cell _ _) from e1) (by rw [z1, hsz]) (fun q hq => o1 q (by rw [← hsz]; exact hq))) (am_S_push hS (by rw [z1, hsz]) (fun q hq => o1 q (by rw [← hsz]; exact hq))) hL
theorem r_newaZ (pc' : Nat) (hp : pc + 2 = pc') (N : Nat) {i : Int32} (hd : decode (am_c M) pc = .ok (.newarray .boolean, 2)) (hi : i = nI N) (hN : N ≤ 1000) (hcu : cu + 1 ≤ am_mc M) (hsu : su + N ≤ am_ms M) (kk : AW M Q pc' lv (.ref (n + 1) :: st) (va_up h (n + 1) (.inl (1, N, fun _ => 0))) (n + 1) (cu + 1) (su + N)) : AW M Q pc lv (.int i :: st) h n cu su := by
  subst hp
  subst hi
  intro l b base L xs D cA p e s m args below meth c H locs ls hC h0 hH hS hL
  have hts := hC.2.2.2.2.2.2.2.1
  have hsz := hH.1
  refine va_newaK (atype := .boolean) hC.1 hC.2.1 (hts _ am_acZ) rfl hd rfl (nI_pos (by omega)) (nI_clamp (by omega)) (by show N * 1 ≤ _; omega) hcu hsu hsz fun H1 cA' e1 z1 o1 hAr hNm => ?_
  have hcA : cA' = cA 1 := Option.some.inj (hNm.symm.trans (hC.2.2.2.2.2.2.2.2.1.1.2 1 _ rfl).2)
  subst hcA
  exact kk l b base L xs D cA p e s m args below meth c H1 locs ls hC (by rw [am_up0]; exact h0) (am_Hp_push hH (show H1[base + n]? = some (vp_cell _ _) from e1) (by rw [z1, hsz]) (fun q hq => o1 q (by rw [← hsz]; exact hq))) (am_S_push hS (by rw [z1, hsz]) (fun q hq => o1 q (by rw [← hsz]; exact hq))) hL
theorem r_anewa (pc' : Nat) (hp : pc + 3 = pc') (N : Nat) {idx : Nat} {i : Int32} (hd : decode (am_c M) pc = .ok (.anewarray idx, 3)) (hcl : Cond.classLink (am_y M).cls idx am_S ∈ am_T) (hi : i = nI N) (hN : N ≤ 1000) (hcu : cu + 1 ≤ am_mc M) (hsu : su + N ≤ am_ms M) (kk : AW M Q pc' lv (.ref (n + 1) :: st) (va_up h (n + 1) (.inr (.inl (N, fun _ => none)))) (n + 1) (cu + 1) (su + N)) : AW M Q pc lv (.int i :: st) h n cu su := by
  subst hp
  subst hi
  intro l b base L xs D cA p e s m args below meth c H locs ls hC h0 hH hS hL
  have hts := hC.2.2.2.2.2.2.2.1
  have hsz := hH.1
  have hK := hC.2.2.2.2.2.2.2.2.1
  have hcp : (nI N).toNatClampNeg = N := nI_clamp (by omega)
  refine W.anew hC.1 hC.2.1 hC.2.2.2.2.2.1 (hts _ hcl) (va_AO.use hK.2.2.2.2) rfl hd rfl (nI_pos (by omega)) (by rw [hcp]; omega) hcu (by rw [hcp]; exact hsu) fun cA' kA comp f1 f2 f3 f4 => ?_
  rw [hcp]
  obtain ⟨kA2, comp2, k1, k2, k3, k4⟩ := (hK.1.2 2 _ rfl).2
  have hcA : cA' = cA 2 := Option.some.inj (f1.symm.trans k4)
  subst hcA
  generalize hH1 : H.push ({ cls := cA 2, slots := Array.replicate N .null, vm := .none } : Cell) = H1
  have z1 : H1.size = H.size + 1 := by rw [← hH1, Array.size_push]
  have e1 : H1[H.size]? = some (arrV (cA 2) N (fun _ => .null)) := by rw [← hH1, Array.getElem?_push_size, ← arrV_new]
  have o1 : ∀ q : Nat, q < H.size → H1[q]? = H[q]? := fun q hq => by rw [← hH1, Array.getElem?_push, if_neg (Nat.ne_of_lt hq)]
  have K := kk l b base L xs D cA p e s m args below meth c H1 locs ls hC (by rw [am_up0]; exact h0) (am_Hp_push hH (show H1[base + n]? = some (vp_cell _ _) by rw [← hsz]; exact e1) z1 o1) (am_S_push hS z1 o1) hL
  have e2 : Value.ref H.size = am_v b base (.ref (n + 1)) := by rw [hsz]; rfl
  show W p l e (am_rm M) s m args below meth c H1 locs (cu + 1) (su + N) _ (F0 m (pc + 3) ls (.ref H.size :: st.map (am_v b base)))
  rw [e2]
  exact K
theorem r_instY (pc' : Nat) (hp : pc + 3 = pc') {idx a ci : Nat} {fs : List Value} {r : vw_C} {nm : String} (hd : decode (am_c M) pc = .ok (.instanceof idx, 3)) (hcl : Cond.classLink (am_y M).cls idx nm ∈ am_T) (he : h a = .inr (.inr (ci, fs))) (hr : vwCl[ci]? = some r) (hq : r.1 = nm ∨ (r.1, nm) ∈ am_ca) (kk : AW M Q pc' lv (.int 1 :: st) h n cu su) : AW M Q pc lv (.ref a :: st) h n cu su := by
  subst hp
  intro l b base L xs D cA p e s m args below meth c H locs ls hC h0 hH hS hL
  have hts := hC.2.2.2.2.2.2.2.1
  have hK := hC.2.2.2.2.2.2.2.2.1
  obtain ⟨k, rfl, hk, hat⟩ := am_obj h0 hH he hr
  have hrc := am_rcv hK hr hat
  have K := kk l b base L xs D cA p e s m args below meth c H locs ls hC h0 hH hS hL
  rcases hq with rfl | hq
  · exact va_instS hC.1 hC.2.1 hC.2.2.2.2.2.1 (hts _ hcl) (hK.1.1 ci r hr).2 hrc hd K
  · exact va_instY hC.1 hC.2.1 hC.2.2.2.2.2.1 (hts _ hcl) (hK.2.2.1 _ hq) hrc hd K
theorem r_instN (pc' : Nat) (hp : pc + 3 = pc') {idx a ci : Nat} {fs : List Value} {r : vw_C} {nm : String} (hd : decode (am_c M) pc = .ok (.instanceof idx, 3)) (hcl : Cond.classLink (am_y M).cls idx nm ∈ am_T) (he : h a = .inr (.inr (ci, fs))) (hr : vwCl[ci]? = some r) (hq : (r.1, nm) ∈ am_nc) (kk : AW M Q pc' lv (.int 0 :: st) h n cu su) : AW M Q pc lv (.ref a :: st) h n cu su := by
  subst hp
  intro l b base L xs D cA p e s m args below meth c H locs ls hC h0 hH hS hL
  have hts := hC.2.2.2.2.2.2.2.1
  have hK := hC.2.2.2.2.2.2.2.2.1
  obtain ⟨k, rfl, hk, hat⟩ := am_obj h0 hH he hr
  have hrc := am_rcv hK hr hat
  have K := kk l b base L xs D cA p e s m args below meth c H locs ls hC h0 hH hS hL
  exact va_instNo hC.1 hC.2.1 hC.2.2.2.2.2.1 (hts _ hcl) (hK.2.2.2.1 _ hq) hrc hd K
theorem r_objInit (pc' : Nat) (hp : pc + 3 = pc') {idx a : Nat} (hd : decode (am_c M) pc = .ok (.invokespecial idx, 3)) (hl : Cond.methodLink (am_y M).cls idx objectInit ∈ am_T) (hfr : 1 ≤ am_fr M) (hlo : (st.map fun v => v.category).sum + 12 ≤ am_lo M) (kk : AW M Q pc' lv st h n cu su) : AW M Q pc lv (.ref a :: st) h n cu su := by
  subst hp
  intro l b base L xs D cA p e s m args below meth c H locs ls hC h0 hH hS hL
  have hts := hC.2.2.2.2.2.2.2.1
  refine W.objInit hC.1 hC.2.1 hC.2.2.2.2.2.1 (hts _ hl) (hts _ am_oi) (hts _ am_oc) rfl (by rw [hC.2.2.2.2.1]; exact hL.1) rfl hd hfr ?_ (kk l b base L xs D cA p e s m args below meth c H locs ls hC h0 hH hS hL)
  show 2 * 0 + ((st.map (am_v b base)).map fun v => v.category).sum + 12 ≤ am_lo M
  rw [am_v_sum]
  omega
theorem r_copy (pc' : Nat) (hp : pc + 3 = pc') {idx a0 a1 N : Nat} {i : Int32} {f g : Nat → Int32} (hd : decode (am_c M) pc = .ok (.invokestatic idx, 3)) (hl : Cond.methodLink (am_y M).cls idx arraycopyName ∈ am_T) (h1 : 0 < a0) (h2 : 0 < a1) (he0 : h a0 = .inl (0, N, f)) (he1 : h a1 = .inl (0, N, g)) (hi : i = nI N) (hN : N ≤ 1000) (hfr : 1 ≤ am_fr M) (hlo : (st.map fun v => v.category).sum + (nativeFrameWords "java/lang/System" "arraycopy" 5 + 11) ≤ am_lo M)
    (kk : AW M Q pc' lv st (va_up h a1 (.inl (0, N, va_cpy f g 0 0 N))) n cu su) : AW M Q pc lv (.int i :: .int 0 :: .ref a1 :: .int 0 :: .ref a0 :: st) h n cu su := by
  subst hp
  subst hi
  intro l b base L xs D cA p e s m args below meth c H locs ls hC h0 hH hS hL
  have hts := hC.2.2.2.2.2.2.2.1
  have hK := hC.2.2.2.2.2.2.2.2.1
  obtain ⟨k0, rfl, hk0, hc0⟩ := am_arr hH h1 he0
  obtain ⟨k1, rfl, hk1, hc1⟩ := am_arr hH h2 he1
  have hz0 : (0 : Int32).toNatClampNeg = 0 := by decide +kernel
  have hzN : (nI N).toNatClampNeg = N := nI_clamp (by omega)
  have hiN : (nI N).toInt = (N : Int) := nI_toInt (by omega)
  have hi0 : (0 : Int32).toInt = 0 := by decide +kernel
  intro T hT X
  obtain ⟨-, kk0, hkk0, cm0, hkd0⟩ := (hK.1.2 0 _ rfl).1 N (fun j => .int (f j))
  obtain ⟨-, kk1, hkk1, cm1, hkd1⟩ := (hK.1.2 0 _ rfl).1 N (fun j => .int (g j))
  obtain ⟨vm', X', step⟩ := X.arraycopy hC.1 hC.2.2.2.2.2.1 (hts _ hl) (hts _ am_cpn) (hts _ am_cps) (hts _ am_cpi) (src := base + k0) (dst := base + k1) (cs := vp_cell (cA 0) (N, .inl f)) (cd := vp_cell (cA 0) (N, .inl g)) (srcPos := 0) (destPos := 0) (n := nI N) (by rw [hT]; exact hc0) (by rw [hT]; exact hc1)
    (fun _ h => by cases h) (fun _ h => by cases h) (fun h => by cases h) (fun h => by cases h) hkk0 hkk1 hkd0 hkd1 (by simp [refKind]) (by decide) (by decide) (nI_pos (by omega))
    (by rw [hiN, hi0]; show ¬ _ > ((arrV (cA 0) N (fun j => .int (f j))).slots.size : Int); rw [arrV_size]; omega)
    (by rw [hiN, hi0]; show ¬ _ > ((arrV (cA 0) N (fun j => .int (g j))).slots.size : Int); rw [arrV_size]; omega)
    (fun vm₁ _ i hi => by
      have e : (vp_cell (cA 0) (N, .inl f)).slots.getD ((0 : Int32).toNatClampNeg + i) .null = .int (f ((0 : Int32).toNatClampNeg + i)) := by
        show (arrV (cA 0) N (fun j => .int (f j))).slots.getD _ _ = _
        rw [Array.getD_eq_getD_getElem?, arrV_read _ _ (by rw [hz0]; rw [hzN] at hi; omega)]
        rfl
      refine ⟨?_, ?_⟩
      · rw [e]; rfl
      · rw [e]
        exact trivial)
    (g := F0 m pc ls (.int (nI N) :: .int 0 :: .ref (base + k1) :: .int 0 :: .ref (base + k0) :: st.map (am_v b base))) rfl (by rw [hC.2.2.2.2.1]; exact hL.1) (rest := st.map (am_v b base)) rfl (by rw [hC.2.1]; exact hd) hfr (by show 2 * 0 + ((st.map (am_v b base)).map fun v => v.category).sum + _ ≤ am_lo M; rw [am_v_sum]; omega)
  have e1 : copied (vp_cell (cA 0) (N, .inl f)) (vp_cell (cA 0) (N, .inl g)) 0 0 (nI N) = vp_cell (cA 0) (N, .inl (va_cpy f g (0 : Int32).toNatClampNeg (0 : Int32).toNatClampNeg (nI N).toNatClampNeg)) := va_copied (fun z => .int z) (cA 0) (cA 0) f g (by rw [hz0, hzN]; omega)
  rw [hz0, hzN] at e1
  rw [e1] at X' step
  have hl1 : base + k1 < H.size := (Array.getElem?_eq_some_iff.mp hc1).1
  have hheap : ((T.setVm vm').setCell (base + k1) (vp_cell (cA 0) (N, .inl (va_cpy f g 0 0 N)))).heap = H.setIfInBounds (base + k1) (vp_cell (cA 0) (N, .inl (va_cpy f g 0 0 N))) := by rw [← hT]; rfl
  have oq : ∀ q : Nat, q ≠ base + k1 → (H.setIfInBounds (base + k1) (vp_cell (cA 0) (N, .inl (va_cpy f g 0 0 N))))[q]? = H[q]? := fun q hq => by simp [Array.getElem?_setIfInBounds, Ne.symm hq]
  obtain ⟨t, a1, b1⟩ := kk l b base L xs D cA p e s m args below meth c _ _ ls hC (by rw [am_up0]; exact h0) (am_Hp_set (H1 := H.setIfInBounds (base + k1) (vp_cell (cA 0) (N, .inl (va_cpy f g 0 0 N)))) hH hk1 (show (H.setIfInBounds (base + k1) _)[base + k1]? = some _ by simp [Array.getElem?_setIfInBounds, hl1]) (by simp) oq) ⟨by simp; exact hS.1, fun q g1 g2 => by
      rw [oq q (fun e => g2 (by rw [e]; exact Nat.le_add_right _ _))]
      exact hS.2.1 q g1 g2, fun q hq => by
      rcases List.mem_append.mp hq with h | h
      · exact hS.2.2 q h
      · obtain ⟨z, -, hz⟩ := List.mem_map.mp h
        rw [← hz]
        exact Nat.le_add_right _ _⟩ hL _ hheap X'
  exact ⟨t, step t a1, b1⟩
/-- a method's contract out of its walk -/
theorem am_met {N : am_M} {Q' : am_P} {As : List Value} {h : Nat → am_E} {n : Nat} (hy : plainName (am_y N).cls = true) (hlen : ∀ b base, (lg_sl (As.map (am_v b base))).length ≤ am_l N) (k : AW N Q' 0 (am_ent (am_l N) As) [] h n 0 0) (l : Launch) (b base L : Nat) (xs : Nat → Int32) (D : va_G) (cA : Nat → ClassId) (h0 : h 0 = .inl (0, L, xs)) :
    Met l (am_y N) (.code (am_y N) (am_c N) (am_l N) (am_r N) :: am_T) (am_rm N) (va_Pc (As.map (am_v b base)) (fun U => am_K D cA U ∧ va_X b L xs U U.heap ∧ b < base ∧ base ≤ U.heap.size ∧ am_Hp b base D cA h n U.heap)) (am_Q b base L xs D cA Q') (am_mc N) (am_ms N) (fun q => base ≤ q) := by
  refine Met.ofW (cc := am_c N) (maxL := am_l N) (ret := am_r N) hy rfl ?_
  intro p e s m args below meth c s₁ B hml hv
  obtain ⟨rfl, hK, hX, hb, hbs, hH⟩ := hv
  have hts := atoms_spec (ws := .code (am_y N) (am_c N) (am_l N) (am_r N) :: am_T) B.pre
  have hL := am_L_ent (As := As) (hlen b base)
  rw [lg_entry_eq]
  exact k l b base L xs D cA p e s m _ below meth c s.heap [] _ ⟨B.exec, B.bytes, B.returns, B.notSynchronized, hml, findClass_of_methodNamed B.named, (name_of_methodNamed B.named B.method).1, fun w hw => hts w (List.mem_cons_of_mem _ hw), hK, hX, hb, hbs⟩ h0 hH va_S.rf hL
/-- what a call asks of the tables and of the room -/
def am_cl (M N : am_M) (k : Nat) : Prop := plainName (am_y N).cls = true ∧ (am_fr N + 1 ≤ am_fr M ∧ 8 + (am_l N + 11) + am_lo N ≤ am_lo M) ∧ Cond.code (am_y N) (am_c N) (am_l N) (am_r N) ∈ am_T ∧ Cond.initialized (am_y N).cls ∈ am_T ∧ ((am_y N).cls ≠ "java/lang/invoke/MethodHandle" ∧ (am_y N).cls ≠ "java/lang/invoke/VarHandle" ∧ (parseMethodDescriptor (am_y N).desc).map (fun d => d.parameters.length) = some k)
theorem am_gd {N : am_M} (hc : Cond.code (am_y N) (am_c N) (am_l N) (am_r N) ∈ am_T) : GoodIn am_T (.code (am_y N) (am_c N) (am_l N) (am_r N) :: am_T) := am_good _ (fun _ h => h) (fun w hw => (List.mem_cons.mp hw).elim (fun e => e ▸ hc) id)
theorem am_pre {b base L n : Nat} {xs : Nat → Int32} {D : va_G} {cA : Nat → ClassId} {M : am_M} {p : Program} {s : State} {m : MethodId} {args : Array Value} {meth : Method} {c : Code} {H : Heap} {locs : List Loc} {h : Nat → am_E} (av : List Value) (hC : am_C M b base L xs D cA p s m args meth c) (hH : am_Hp b base D cA h n H) (hS : va_S (fun q => base ≤ q) s.heap H locs) :
    PreS s H (va_Pc av (fun U => am_K D cA U ∧ va_X b L xs U U.heap ∧ b < base ∧ base ≤ U.heap.size ∧ am_Hp b base D cA h n U.heap)) av := by
  refine ⟨fun a U g mk q => ?_, fun U hU hW => ?_⟩
  · obtain ⟨q0, q1, q2, q3, q4, q5⟩ := q
    exact ⟨q0, am_K_same (s := U) rfl q1, va_X.moved (u := U) (U := U.calling g mk a) (Vm.Alike.refl U.vm) q2, q3, q4, q5⟩
  · have hb := hC.2.2.2.2.2.2.2.2.2.2.1
    have hbs := hC.2.2.2.2.2.2.2.2.2.2.2
    refine ⟨rfl, am_K_moved hW hC.2.2.2.2.2.2.2.2.1, ?_, hb, ?_, ?_⟩
    · rw [hU]
      exact (va_X.kept hC.2.2.2.2.2.2.2.2.2.1 (hS.2.1 b (Nat.lt_of_lt_of_le hb hbs) (Nat.not_le.mpr hb))).moved hW.alike
    · rw [hU]; exact Nat.le_trans hbs hS.1
    · rw [hU]; exact hH
/-- behind a call -/
theorem am_go {Q' : am_P} {p : Program} {l : Launch} {e : Env} {R : Room} {s : State} {m : MethodId} {args : Array Value} {below : List Frame} {meth : Method} {c : Code} {H : Heap} {locs : List Loc} {cu su mc ms b base L : Nat} {xs : Nat → Int32} {D : va_G} {cA : Nat → ClassId} {pc : Nat} {ls : Array Slot} {st0 rest : List Value} {a : Array Value} {Z : State → Prop}
    (hr : va_Run p l e R s m args below meth c H locs cu su mc ms (F0 m pc ls st0) rest (am_Q b base L xs D cA Q' a) (fun q => base ≤ q)) (hS : va_S (fun q => base ≤ q) s.heap H locs)
    (kk : ∀ (r : Option Value) (h' : Nat → am_E) (n' : Nat) (H1 : Heap) (locs1 : List Loc), Q' r h' n' → h' 0 = .inl (0, L, xs) → am_Hp b base D cA h' n' H1 → va_S (fun q => base ≤ q) s.heap H1 locs1 → W p l e R s m args below meth c H1 locs1 (cu + mc) (su + ms) Z (F0 m (pc + 3) ls ((r.map (am_v b base)).toList ++ rest))) : W p l e R s m args below meth c H locs cu su Z (F0 m pc ls st0) := by
  intro T hT X
  obtain ⟨v, st₀, t, T', L', h0, X', hL, e1, e2, ⟨⟨r, h', n', hv, hq, hh0, hHp⟩, hz, hk⟩, st⟩ := hr T hT X
  cases hv
  rw [h0] at hz hk
  obtain ⟨t2, a1, b1⟩ := kk r h' n' T'.heap (locs ++ L') hq hh0 (by rw [e1]; exact hHp) ⟨Nat.le_trans hS.1 (by rw [e1]; exact hz), fun q h1 h2 => by rw [e1, hk q (Nat.lt_of_lt_of_le h1 hS.1) h2]; exact hS.2.1 q h1 h2, fun q hq => by
      rcases List.mem_append.mp hq with h | h
      · exact hS.2.2 q h
      · exact hL q h⟩ T' rfl X'
  exact ⟨t2, st t2 a1, b1⟩
theorem am_tl (b base : Nat) (r : Option Value) (st : List Value) : (r.map (am_v b base)).toList ++ st.map (am_v b base) = (r.toList ++ st).map (am_v b base) := by
  cases r <;> simp
theorem am_rv (b base : Nat) (As st : List Value) : (As.reverse ++ st).map (am_v b base) = (As.map (am_v b base)).reverse ++ st.map (am_v b base) := by
  rw [List.map_append, List.map_reverse]
theorem am_rm8 {m : MethodId} {pc b base : Nat} {ls : Array Slot} {st0 st : List Value} (h8 : (st.map fun v => v.category).sum ≤ 8) : 2 * (F0 m pc ls st0).monitorRoom + ((st.map (am_v b base)).map fun v => v.category).sum ≤ 8 := lv_room (by rw [am_v_sum]; exact h8)
theorem r_callS (pc' : Nat) (hp : pc + 3 = pc') {N : am_M} {idx : Nat} (As : List Value) {st0 : List Value} (hst : st0 = As.reverse ++ st) {Q' : am_P} (hd : decode (am_c M) pc = .ok (.invokestatic idx, 3)) (hcl : am_cl M N As.length) (hlk : Cond.methodLink (am_y M).cls idx (am_y N) ∈ am_T) (hsx : Cond.static (am_y N) ∈ am_T)
    (h8 : (st.map fun v => v.category).sum ≤ 8) (hlen : ∀ b base, (lg_sl (As.map (am_v b base))).length ≤ am_l N) (hcu : cu + am_mc N ≤ am_mc M ∧ su + am_ms N ≤ am_ms M) (hc : AW N Q' 0 (am_ent (am_l N) As) [] h n 0 0)
    (kk : ∀ r h' n', Q' r h' n' → AW M Q pc' lv (r.toList ++ st) h' n' (cu + am_mc N) (su + am_ms N)) : AW M Q pc lv st0 h n cu su := by
  subst hp
  subst hst
  intro l b base L xs D cA p e s m args below meth c H locs ls hC h0 hH hS hL
  have hts := hC.2.2.2.2.2.2.2.1
  obtain ⟨hy, hR, hcd, hini, hdd⟩ := hcl
  have hM := am_met hy hlen hc l b base L xs D cA h0
  rw [am_rv]
  refine am_go (va_runS (As := As.map (am_v b base)) (rest := st.map (am_v b base)) ⟨hC.1, hC.2.1, hC.2.2.2.2.1, hC.2.2.2.2.2.1, hts⟩ hM ⟨callB_of As.length hts (am_gd hcd) rfl rfl rfl (hts _ hini) (hts _ hlk) hdd hR, hts _ hsx⟩ (am_pre _ hC hH hS) rfl (List.length_map _) hL.1 rfl (am_rm8 h8) hd hcu) hS ?_
  intro r h' n' H1 locs1 hq hh0 hHp hS1
  rw [am_tl]
  exact kk r h' n' hq l b base L xs D cA p e s m args below meth c H1 locs1 ls hC hh0 hHp hS1 hL
theorem r_callI (pc' : Nat) (hp : pc + 3 = pc') {N : am_M} {idx a : Nat} (As : List Value) {st0 : List Value} (hst : st0 = As.reverse ++ .ref a :: st) {Q' : am_P} (hd : decode (am_c M) pc = .ok (.invokespecial idx, 3)) (hcl : am_cl M N As.length) (hlk : Cond.methodLink (am_y M).cls idx (am_y N) ∈ am_T) (hsx : Cond.instanceMethod (am_y N) ∈ am_T) (hnm : (am_y N).name = "<init>") (hrt : am_r N = none)
    (h8 : (st.map fun v => v.category).sum ≤ 8) (hlen : ∀ b base, (lg_sl ((.ref a :: As).map (am_v b base))).length ≤ am_l N) (hcu : cu + am_mc N ≤ am_mc M ∧ su + am_ms N ≤ am_ms M) (hc : AW N Q' 0 (am_ent (am_l N) (.ref a :: As)) [] h n 0 0)
    (kk : ∀ r h' n', Q' r h' n' → AW M Q pc' lv (r.toList ++ st) h' n' (cu + am_mc N) (su + am_ms N)) : AW M Q pc lv st0 h n cu su := by
  subst hp
  subst hst
  intro l b base L xs D cA p e s m args below meth c H locs ls hC h0 hH hS hL
  have hts := hC.2.2.2.2.2.2.2.1
  obtain ⟨hy, hR, hcd, hini, hdd⟩ := hcl
  have hM := am_met hy hlen hc l b base L xs D cA h0
  rw [am_rv]
  refine am_go (va_runI (b := am_ad b base a) (As := As.map (am_v b base)) (rest := st.map (am_v b base)) ⟨hC.1, hC.2.1, hC.2.2.2.2.1, hC.2.2.2.2.2.1, hts⟩ hM ⟨callB_of As.length hts (am_gd hcd) (by rw [hrt]) rfl rfl (hts _ hini) (hts _ hlk) hdd hR, hnm, hts _ hsx⟩ (am_pre _ hC hH hS) rfl (List.length_map _) hL.1 rfl (am_rm8 h8) hd hcu) hS ?_
  intro r h' n' H1 locs1 hq hh0 hHp hS1
  rw [am_tl]
  exact kk r h' n' hq l b base L xs D cA p e s m args below meth c H1 locs1 ls hC hh0 hHp hS1 hL
theorem r_callN (pc' : Nat) (hp : pc + 3 = pc') {N : am_M} {idx a : Nat} (As : List Value) {st0 : List Value} (hst : st0 = As.reverse ++ .ref a :: st) {Q' : am_P} (hd : decode (am_c M) pc = .ok (.invokespecial idx, 3)) (hcl : am_cl M N As.length) (hmy : (am_y M).cls = RX9) (hlk : (idx, am_y N) ∈ am_nn) (hsx : Cond.instanceMethod (am_y N) ∈ am_T) (hnm : (am_y N).name = "<init>") (hrt : am_r N = none)
    (h8 : (st.map fun v => v.category).sum ≤ 8) (hlen : ∀ b base, (lg_sl ((.ref a :: As).map (am_v b base))).length ≤ am_l N) (hcu : cu + am_mc N ≤ am_mc M ∧ su + am_ms N ≤ am_ms M) (hc : AW N Q' 0 (am_ent (am_l N) (.ref a :: As)) [] h n 0 0)
    (kk : ∀ r h' n', Q' r h' n' → AW M Q pc' lv (r.toList ++ st) h' n' (cu + am_mc N) (su + am_ms N)) : AW M Q pc lv st0 h n cu su := by
  subst hp
  subst hst
  intro l b base L xs D cA p e s m args below meth c H locs ls hC h0 hH hS hL
  have hts := hC.2.2.2.2.2.2.2.1
  have hK := hC.2.2.2.2.2.2.2.2.1
  obtain ⟨hy, hR, hcd, hini, hdd⟩ := hcl
  have hM := am_met hy hlen hc l b base L xs D cA h0
  have hown := hC.2.2.2.2.2.1
  rw [hmy] at hown
  rw [am_rv]
  refine am_go (va_runIN (b := am_ad b base a) (host := RX9) (As := As.map (am_v b base)) (rest := st.map (am_v b base)) ⟨hC.1, hC.2.1, hC.2.2.2.2.1, hown, hts⟩ hM ⟨va_cnB As.length hts (am_gd hcd) (by rw [hrt]) rfl rfl (hK.2.1 _ hlk) (hts _ hini) hdd hR, hnm, hts _ hsx⟩ (am_pre _ hC hH hS) rfl (List.length_map _) hL.1 rfl (am_rm8 h8) hd hcu) hS ?_
  intro r h' n' H1 locs1 hq hh0 hHp hS1
  rw [am_tl]
  exact kk r h' n' hq l b base L xs D cA p e s m args below meth c H1 locs1 ls hC hh0 hHp hS1 hL
theorem am_preV {b base L n a ci : Nat} {xs : Nat → Int32} {D : va_G} {cA : Nat → ClassId} {M : am_M} {p : Program} {s : State} {m : MethodId} {args : Array Value} {meth : Method} {c : Code} {H : Heap} {locs : List Loc} {h : Nat → am_E} {r : vw_C} {fs : List Value} (av : List Value) (hC : am_C M b base L xs D cA p s m args meth c) (h0 : h 0 = .inl (0, L, xs)) (hH : am_Hp b base D cA h n H) (hS : va_S (fun q => base ≤ q) s.heap H locs) (he : h a = .inr (.inr (ci, fs))) (hr : vwCl[ci]? = some r) :
    PreV s H r.1 (am_ad b base a) (va_Pc (.ref (am_ad b base a) :: av) (fun U => am_K D cA U ∧ va_X b L xs U U.heap ∧ b < base ∧ base ≤ U.heap.size ∧ am_Hp b base D cA h n U.heap)) av := by
  obtain ⟨k, rfl, hk, hat⟩ := am_obj h0 hH he hr
  have hp := am_pre (.ref (am_ad b base (k + 1)) :: av) hC hH hS
  exact ⟨hp.1, am_rcv hC.2.2.2.2.2.2.2.2.1 hr hat, hp.2⟩
theorem r_callV (pc' : Nat) (hp : pc + 3 = pc') {N : am_M} {idx a ci : Nat} {fs : List Value} {C : vw_C} (As : List Value) {st0 : List Value} (hst : st0 = As.reverse ++ .ref a :: st) {Q' : am_P} (hd : decode (am_c M) pc = .ok (.invokevirtual idx, 3)) (hcl : am_cl M N As.length) (hlk : Cond.methodLink (am_y M).cls idx (am_y N) ∈ am_T) (hsx : Cond.instanceMethod (am_y N) ∈ am_T) (hr : vwCl[ci]? = some C) (hsl : Cond.selects C.1 (am_y N) (am_y N) ∈ am_T) (he : h a = .inr (.inr (ci, fs)))
    (h8 : (st.map fun v => v.category).sum ≤ 8) (hlen : ∀ b base, (lg_sl ((.ref a :: As).map (am_v b base))).length ≤ am_l N) (hcu : cu + am_mc N ≤ am_mc M ∧ su + am_ms N ≤ am_ms M) (hc : AW N Q' 0 (am_ent (am_l N) (.ref a :: As)) [] h n 0 0)
    (kk : ∀ r h' n', Q' r h' n' → AW M Q pc' lv (r.toList ++ st) h' n' (cu + am_mc N) (su + am_ms N)) : AW M Q pc lv st0 h n cu su := by
  subst hp
  subst hst
  intro l b base L xs D cA p e s m args below meth c H locs ls hC h0 hH hS hL
  have hts := hC.2.2.2.2.2.2.2.1
  obtain ⟨hy, hR, hcd, hini, hdd⟩ := hcl
  have hM := am_met hy hlen hc l b base L xs D cA h0
  rw [am_rv]
  refine am_go (va_runV (b := am_ad b base a) (As := As.map (am_v b base)) (rest := st.map (am_v b base)) ⟨hC.1, hC.2.1, hC.2.2.2.2.1, hC.2.2.2.2.2.1, hts⟩ hM ⟨callB_of As.length hts (am_gd hcd) rfl rfl rfl (hts _ hini) (hts _ hlk) hdd hR, hts _ hsx, hts _ hsl⟩ (am_preV _ hC h0 hH hS he hr) rfl (List.length_map _) hL.1 rfl (am_rm8 h8) hd hcu) hS ?_
  intro r h' n' H1 locs1 hq hh0 hHp hS1
  rw [am_tl]
  exact kk r h' n' hq l b base L xs D cA p e s m args below meth c H1 locs1 ls hC hh0 hHp hS1 hL
/-- a call of a Source's method x, where the receiver's class selects N -/
theorem r_callU (pc' : Nat) (hp : pc + 3 = pc') {N X : am_M} {idx a ci : Nat} {fs : List Value} {C : vw_C} (As : List Value) {st0 : List Value} (hst : st0 = As.reverse ++ .ref a :: st) {Q' : am_P} (hd : decode (am_c M) pc = .ok (.invokevirtual idx, 3)) (hcl : am_cl M N As.length) (hlk : Cond.methodLink (am_y M).cls idx (am_y X) ∈ am_T) (hsm : Cond.sameMethod (am_y X).cls (am_y X).cls (am_y X).name (am_y X).desc ∈ am_T) (hxi : Cond.instanceMethod (am_y X) ∈ am_T) (hxc : Cond.code (am_y X) (am_c X) (am_l X) (am_r X) ∈ am_T) (hdx : (am_y X).cls ≠ "java/lang/invoke/MethodHandle" ∧ (am_y X).cls ≠ "java/lang/invoke/VarHandle" ∧ (parseMethodDescriptor (am_y X).desc).map (fun d => d.parameters.length) = some As.length) (hsx : Cond.instanceMethod (am_y N) ∈ am_T) (hr : vwCl[ci]? = some C) (hsl : Cond.selects C.1 (am_y X) (am_y N) ∈ am_T) (he : h a = .inr (.inr (ci, fs)))
    (h8 : (st.map fun v => v.category).sum ≤ 8) (hlen : ∀ b base, (lg_sl ((.ref a :: As).map (am_v b base))).length ≤ am_l N) (hcu : cu + am_mc N ≤ am_mc M ∧ su + am_ms N ≤ am_ms M) (hc : AW N Q' 0 (am_ent (am_l N) (.ref a :: As)) [] h n 0 0)
    (kk : ∀ r h' n', Q' r h' n' → AW M Q pc' lv (r.toList ++ st) h' n' (cu + am_mc N) (su + am_ms N)) : AW M Q pc lv st0 h n cu su := by
  subst hp
  subst hst
  intro l b base L xs D cA p e s m args below meth c H locs ls hC h0 hH hS hL
  have hts := hC.2.2.2.2.2.2.2.1
  obtain ⟨hy, hR, hcd, hini, hdd⟩ := hcl
  have hM := am_met hy hlen hc l b base L xs D cA h0
  rw [am_rv]
  have hcu' : va_CU (am_rm M) s args (am_y M).cls C.1 (am_y X).cls idx (am_y X) (am_y N) (am_c N) (am_l N) (am_r N) (.code (am_y N) (am_c N) (am_l N) (am_r N) :: am_T) (am_rm N) (am_mc N) (am_ms N) As.length := by
    refine ⟨⟨rfl, rfl, hR.1, hR.2, pay_in hts (am_gd hcd), List.mem_cons_self⟩, hts _ hcd, hts _ hini, ⟨hdx.1, hdx.2.1⟩, fun sig h => ?_, hts _ hlk, hts _ hsm, va_Decl.of (hts _ hxi) (hts _ hxc), hts _ hsl, hts _ hsx⟩
    have h2 := hdx.2.2
    rw [h] at h2
    exact (Option.some.inj h2).symm
  refine am_go (va_runU (b := am_ad b base a) (As := As.map (am_v b base)) (rest := st.map (am_v b base)) ⟨hC.1, hC.2.1, hC.2.2.2.2.1, hC.2.2.2.2.2.1, hts⟩ hM hcu' (am_preV _ hC h0 hH hS he hr) rfl (List.length_map _) hL.1 rfl (am_rm8 h8) hd hcu) hS ?_
  intro r h' n' H1 locs1 hq hh0 hHp hS1
  rw [am_tl]
  exact kk r h' n' hq l b base L xs D cA p e s m args below meth c H1 locs1 ls hC hh0 hHp hS1 hL
end AMC

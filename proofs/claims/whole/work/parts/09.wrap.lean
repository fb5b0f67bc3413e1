/-! Math.max, Math.min; calls in continuation form; the law's start -/
theorem am_mxs : Cond.static Lib.Math.max.name ∈ am_T := am_in (List.mem_of_getElem? (i := 369) (by decide +kernel)) rfl
theorem am_mns : Cond.static Lib.Math.min.name ∈ am_T := am_in (List.mem_of_getElem? (i := 329) (by decide +kernel)) rfl
theorem am_mti : Cond.initialized "java/lang/Math" ∈ am_T := am_in (List.mem_of_getElem? (i := 57) (by decide +kernel)) rfl
set_option maxRecDepth 40000 in
theorem am_mxc : Cond.code Lib.Math.max.name Lib.Math.max.code 2 (some .int) ∈ am_T := am_in (List.mem_of_getElem? (i := 370) rfl) rfl
set_option maxRecDepth 40000 in
theorem am_mnc : Cond.code Lib.Math.min.name Lib.Math.min.code 2 (some .int) ∈ am_T := am_in (List.mem_of_getElem? (i := 330) rfl) rfl
/-- what the caller does with an answer -/
def am_k (M : am_M) (Q : am_P) (pc : Nat) (lv : List (Option Value)) (st : List Value) (cu su : Nat) : am_P := fun r h n => AW M Q pc lv (r.toList ++ st) h n cu su
section AMW
variable {M : am_M} {Q : am_P} {pc : Nat} {lv : List (Option Value)} {st : List Value} {h : Nat → am_E} {n cu su : Nat}
theorem r_max (pc' : Nat) (hp : pc + 3 = pc') {idx : Nat} {x y : Int32} (hd : decode (am_c M) pc = .ok (.invokestatic idx, 3)) (hl : Cond.methodLink (am_y M).cls idx Lib.Math.max.name ∈ am_T) (hfr : 1 ≤ am_fr M) (hlo : (st.map fun v => v.category).sum + 13 ≤ am_lo M) (hcu : cu ≤ am_mc M) (hsu : su ≤ am_ms M) (k : AW M Q pc' lv (.int (if x < y then y else x) :: st) h n cu su) : AW M Q pc lv (.int y :: .int x :: st) h n cu su := by
  subst hp
  intro l b base L xs D cA p e s m args below meth c H locs ls hC h0 hH hS hL
  have hts := hC.2.2.2.2.2.2.2.1
  exact va_mmax hC.1 hC.2.1 (by rw [hC.2.2.2.2.1, hL.1]) hC.2.2.2.2.2.1 (hts _ hl) (hts _ am_mxs) (hts _ am_mti) (hts _ am_mxc) hfr (by rw [am_v_sum]; exact hlo) hcu hsu hd (k l b base L xs D cA p e s m args below meth c H locs ls hC h0 hH hS hL)
theorem r_min (pc' : Nat) (hp : pc + 3 = pc') {idx : Nat} {x y : Int32} (hd : decode (am_c M) pc = .ok (.invokestatic idx, 3)) (hl : Cond.methodLink (am_y M).cls idx Lib.Math.min.name ∈ am_T) (hfr : 1 ≤ am_fr M) (hlo : (st.map fun v => v.category).sum + 13 ≤ am_lo M) (hcu : cu ≤ am_mc M) (hsu : su ≤ am_ms M) (k : AW M Q pc' lv (.int (if y < x then y else x) :: st) h n cu su) : AW M Q pc lv (.int y :: .int x :: st) h n cu su := by
  subst hp
  intro l b base L xs D cA p e s m args below meth c H locs ls hC h0 hH hS hL
  have hts := hC.2.2.2.2.2.2.2.1
  exact va_mmin hC.1 hC.2.1 (by rw [hC.2.2.2.2.1, hL.1]) hC.2.2.2.2.2.1 (hts _ hl) (hts _ am_mns) (hts _ am_mti) (hts _ am_mnc) hfr (by rw [am_v_sum]; exact hlo) hcu hsu hd (k l b base L xs D cA p e s m args below meth c H locs ls hC h0 hH hS hL)
theorem k_i {x : Int32} (k : AW M Q pc lv (.int x :: st) h n cu su) : am_k M Q pc lv st cu su (some (.int x)) h n := k
theorem k_l {x : Int64} (k : AW M Q pc lv (.long x :: st) h n cu su) : am_k M Q pc lv st cu su (some (.long x)) h n := k
theorem k_r {x : Nat} (k : AW M Q pc lv (.ref x :: st) h n cu su) : am_k M Q pc lv st cu su (some (.ref x)) h n := k
theorem k_n (k : AW M Q pc lv (.null :: st) h n cu su) : am_k M Q pc lv st cu su (some .null) h n := k
theorem k_v (k : AW M Q pc lv st h n cu su) : am_k M Q pc lv st cu su none h n := k
theorem q_S (pc' cu' su' : Nat) (hp : pc + 3 = pc') {N : am_M} {idx : Nat} (As : List Value) {st0 : List Value} (hst : st0 = As.reverse ++ st) (hd : decode (am_c M) pc = .ok (.invokestatic idx, 3)) (hcl : am_cl M N As.length) (hlk : Cond.methodLink (am_y M).cls idx (am_y N) ∈ am_T) (hsx : Cond.static (am_y N) ∈ am_T)
    (h8 : (st.map fun v => v.category).sum ≤ 8) (hlen : ∀ b base, (lg_sl (As.map (am_v b base))).length ≤ am_l N) (hcu : cu + am_mc N = cu') (hsu : su + am_ms N = su') (hcm : cu' ≤ am_mc M) (hsm : su' ≤ am_ms M) (hc : AW N (am_k M Q pc' lv st cu' su') 0 (am_ent (am_l N) As) [] h n 0 0) : AW M Q pc lv st0 h n cu su := by
  subst hcu; subst hsu
  exact r_callS pc' hp As hst hd hcl hlk hsx h8 hlen ⟨hcm, hsm⟩ hc (fun r h' n' q => q)
theorem q_I (pc' cu' su' : Nat) (hp : pc + 3 = pc') {N : am_M} {idx a : Nat} (As : List Value) {st0 : List Value} (hst : st0 = As.reverse ++ .ref a :: st) (hd : decode (am_c M) pc = .ok (.invokespecial idx, 3)) (hcl : am_cl M N As.length) (hlk : Cond.methodLink (am_y M).cls idx (am_y N) ∈ am_T) (hsx : Cond.instanceMethod (am_y N) ∈ am_T) (hnm : (am_y N).name = "<init>") (hrt : am_r N = none)
    (h8 : (st.map fun v => v.category).sum ≤ 8) (hlen : ∀ b base, (lg_sl ((.ref a :: As).map (am_v b base))).length ≤ am_l N) (hcu : cu + am_mc N = cu') (hsu : su + am_ms N = su') (hcm : cu' ≤ am_mc M) (hsm : su' ≤ am_ms M) (hc : AW N (am_k M Q pc' lv st cu' su') 0 (am_ent (am_l N) (.ref a :: As)) [] h n 0 0) : AW M Q pc lv st0 h n cu su := by
  subst hcu; subst hsu
  exact r_callI pc' hp As hst hd hcl hlk hsx hnm hrt h8 hlen ⟨hcm, hsm⟩ hc (fun r h' n' q => q)
theorem q_N (pc' cu' su' : Nat) (hp : pc + 3 = pc') {N : am_M} {idx a : Nat} (As : List Value) {st0 : List Value} (hst : st0 = As.reverse ++ .ref a :: st) (hd : decode (am_c M) pc = .ok (.invokespecial idx, 3)) (hcl : am_cl M N As.length) (hmy : (am_y M).cls = RX9) (hlk : (idx, am_y N) ∈ am_nn) (hsx : Cond.instanceMethod (am_y N) ∈ am_T) (hnm : (am_y N).name = "<init>") (hrt : am_r N = none)
    (h8 : (st.map fun v => v.category).sum ≤ 8) (hlen : ∀ b base, (lg_sl ((.ref a :: As).map (am_v b base))).length ≤ am_l N) (hcu : cu + am_mc N = cu') (hsu : su + am_ms N = su') (hcm : cu' ≤ am_mc M) (hsm : su' ≤ am_ms M) (hc : AW N (am_k M Q pc' lv st cu' su') 0 (am_ent (am_l N) (.ref a :: As)) [] h n 0 0) : AW M Q pc lv st0 h n cu su := by
  subst hcu; subst hsu
  exact r_callN pc' hp As hst hd hcl hmy hlk hsx hnm hrt h8 hlen ⟨hcm, hsm⟩ hc (fun r h' n' q => q)
theorem q_V (pc' cu' su' : Nat) (hp : pc + 3 = pc') {N : am_M} {idx a ci : Nat} {fs : List Value} {C : vw_C} (As : List Value) {st0 : List Value} (hst : st0 = As.reverse ++ .ref a :: st) (hd : decode (am_c M) pc = .ok (.invokevirtual idx, 3)) (hcl : am_cl M N As.length) (hlk : Cond.methodLink (am_y M).cls idx (am_y N) ∈ am_T) (hsx : Cond.instanceMethod (am_y N) ∈ am_T) (hr : vwCl[ci]? = some C) (hsl : Cond.selects C.1 (am_y N) (am_y N) ∈ am_T) (he : h a = .inr (.inr (ci, fs)))
    (h8 : (st.map fun v => v.category).sum ≤ 8) (hlen : ∀ b base, (lg_sl ((.ref a :: As).map (am_v b base))).length ≤ am_l N) (hcu : cu + am_mc N = cu') (hsu : su + am_ms N = su') (hcm : cu' ≤ am_mc M) (hsm : su' ≤ am_ms M) (hc : AW N (am_k M Q pc' lv st cu' su') 0 (am_ent (am_l N) (.ref a :: As)) [] h n 0 0) : AW M Q pc lv st0 h n cu su := by
  subst hcu; subst hsu
  exact r_callV pc' hp As hst hd hcl hlk hsx hr hsl he h8 hlen ⟨hcm, hsm⟩ hc (fun r h' n' q => q)
theorem q_U (pc' cu' su' : Nat) (hp : pc + 3 = pc') {N X : am_M} {idx a ci : Nat} {fs : List Value} {C : vw_C} (As : List Value) {st0 : List Value} (hst : st0 = As.reverse ++ .ref a :: st) (hd : decode (am_c M) pc = .ok (.invokevirtual idx, 3)) (hcl : am_cl M N As.length) (hlk : Cond.methodLink (am_y M).cls idx (am_y X) ∈ am_T) (hsm0 : Cond.sameMethod (am_y X).cls (am_y X).cls (am_y X).name (am_y X).desc ∈ am_T) (hxi : Cond.instanceMethod (am_y X) ∈ am_T) (hxc : Cond.code (am_y X) (am_c X) (am_l X) (am_r X) ∈ am_T) (hdx : (am_y X).cls ≠ "java/lang/invoke/MethodHandle" ∧ (am_y X).cls ≠ "java/lang/invoke/VarHandle" ∧ (parseMethodDescriptor (am_y X).desc).map (fun d => d.parameters.length) = some As.length) (hsx : Cond.instanceMethod (am_y N) ∈ am_T) (hr : vwCl[ci]? = some C) (hsl : Cond.selects C.1 (am_y X) (am_y N) ∈ am_T) (he : h a = .inr (.inr (ci, fs)))
    (h8 : (st.map fun v => v.category).sum ≤ 8) (hlen : ∀ b base, (lg_sl ((.ref a :: As).map (am_v b base))).length ≤ am_l N) (hcu : cu + am_mc N = cu') (hsu : su + am_ms N = su') (hcm : cu' ≤ am_mc M) (hsm : su' ≤ am_ms M) (hc : AW N (am_k M Q pc' lv st cu' su') 0 (am_ent (am_l N) (.ref a :: As)) [] h n 0 0) : AW M Q pc lv st0 h n cu su := by
  subst hcu; subst hsu
  exact r_callU pc' hp As hst hd hcl hlk hsm0 hxi hxc hdx hsx hr hsl he h8 hlen ⟨hcm, hsm⟩ hc (fun r h' n' q => q)
theorem up_s {k : Nat} {e : am_E} : va_up h k e k = e := va_up_self h k e
theorem up_n {k j : Nat} {e e' : am_E} (hne : j ≠ k) (hr : h j = e') : va_up h k e j = e' := (va_up_ne h e hne).trans hr
end AMW
/-- the law's first heap -/
def am_h0 (L : Nat) (xs : Nat → Int32) : Nat → am_E := fun k => if k = 0 then .inl (0, L, xs) else am_0

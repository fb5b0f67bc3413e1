/-- what a method leaves: place 0 as it was -/
theorem AW.k0 {M : am_M} {Q : am_P} {pc : Nat} {lv : List (Option Value)} {st : List Value} {h : Nat → am_E} {n cu su : Nat} (k : AW M Q pc lv st h n cu su) : AW M (fun r h' n' => Q r h' n' ∧ h' 0 = h 0) pc lv st h n cu su := by
  intro l b base L xs D cA p e s m args below meth c H locs ls hC h0 hH hS hL T hT X
  obtain ⟨t, h1, o, h2, h3, ⟨⟨r, h', n', g1, g2, g3, g3'⟩, g4⟩, g5⟩ := k l b base L xs D cA p e s m args below meth c H locs ls hC h0 hH hS hL T hT X
  exact ⟨t, h1, o, h2, h3, ⟨⟨r, h', n', g1, ⟨g2, g3.trans h0.symm⟩, g3, g3'⟩, g4⟩, g5⟩
theorem wd_z {z z' : am_Z} {m m' : Nat → Nat → Int32} (h : wd z m 0 = wd z' m' 0) : z.1 = z'.1 := by
  have h1 : (Sum.inl (0, z.1.1, z.1.2) : am_E) = Sum.inl (0, z'.1.1, z'.1.2) := h
  injection h1 with h2
  injection h2 with _ h3
theorem nI_5 (a : Nat) : nI a + Int32.ofInt 5 = nI (a + 5) := (show nI a + Int32.ofInt 5 = nI a + nI 5 from by rw [show Int32.ofInt 5 = nI 5 from by decide]).trans (nI_add a 5)

theorem lg_cmp_self (y : Int64) : lg_cmp y y = 0 := by simp [lg_cmp, Int64.lt_irrefl]

set_option maxHeartbeats 4000000 in
set_option maxRecDepth 20000 in
theorem cs_letter {nm : String} {Q : am_P} {L : Nat} {xs : Nat → Int32} {z : am_Z} {m : Nat → Nat → Int32} {n cu su i : Nat} {D K : Nat → Nat → Nat} (hz : z.1 = (L, xs)) (hI : IV i z m n D K) (hi : i + 5 ≤ L) (hL : L ≤ 2560) (hcu : cu + 7 ≤ 600000) (hsu : su + 50 ≤ 7302250) (kk : ∀ z' m' n' D' K' cu' su', z'.1 = (L, xs) → IV (i + 5) z' m' n' D' K' → cu' ≤ cu + 7 → su' ≤ su + 50 → AW (mL_law nm) Q 860 [some (.ref 0), some (.ref 1), some (.ref 37), some (.int (nI i))] [] (wd z' m') n' cu' su') : AW (mL_law nm) Q 156 [some (.ref 0), some (.ref 1), some (.ref 37), some (.int (nI i))] [] (wd z m) n cu su := by
  have e0 : wd z m 0 = .inl (0, L, xs) := by show Sum.inl (0, z.1.1, z.1.2) = _; rw [hz]
  refine r_aload_n 157 rfl 1 dL_law_156 rfl rfl ?_
  refine r_aload_n 158 rfl 0 dL_law_157 rfl rfl ?_
  refine r_iload_n 159 rfl 3 dL_law_158 rfl rfl ?_
  refine r_iconst 160 rfl 1 dL_law_159 rfl ?_
  refine r_iadd 161 rfl dL_law_160 ?_
  rw [show (nI i) + 1 = nI (i + 1) from nI_add i 1]
  refine r_iald (f := xs) 162 rfl (i + 1) dL_law_161 e0 rfl (by omega) (by omega) ?_
  refine r_callV 165 rfl [.int (xs (i + 1))] rfl dL_law_162 cl_L_law__X9_letter (lk_L_13 rfl) im_X9_letter (ci := 9) rfl sl_X9__X9_letter rfl (Nat.le_of_ble_eq_true rfl) (fun _ _ => Nat.le_of_ble_eq_true rfl) ⟨(show cu + 0 ≤ 600000 by omega), (show su + 0 ≤ 7302250 by omega)⟩ (AW.k0 (P_letter hI (by omega) (xs (i + 1)))) (fun r h1 n1 hq => ?_)
  obtain ⟨⟨⟨y, rfl⟩, ⟨fs1, g37⟩, hk⟩, g0⟩ := hq
  have f0 : h1 0 = .inl (0, L, xs) := g0.trans e0
  show AW _ _ 165 [some (.ref 0), some (.ref 1), some (.ref 37), some (.int (nI i))] [.int y] h1 n1 (cu + 0) (su + 0)
  refine r_aload_n 166 rfl 2 dL_law_165 rfl rfl ?_
  refine r_aload_n 167 rfl 0 dL_law_166 rfl rfl ?_
  refine r_iload_n 168 rfl 3 dL_law_167 rfl rfl ?_
  refine r_iconst 169 rfl 1 dL_law_168 rfl ?_
  refine r_iadd 170 rfl dL_law_169 ?_
  rw [show (nI i) + 1 = nI (i + 1) from nI_add i 1]
  refine r_iald (f := xs) 171 rfl (i + 1) dL_law_170 f0 rfl (by omega) (by omega) ?_
  refine r_callV 174 rfl [.int (xs (i + 1))] rfl dL_law_171 cl_L_law__X10_letter (lk_L_17 rfl) im_X10_letter (ci := 10) rfl sl_X10__X10_letter g37 (Nat.le_of_ble_eq_true rfl) (fun _ _ => Nat.le_of_ble_eq_true rfl) ⟨(show cu + 0 + 0 ≤ 600000 by omega), (show su + 0 + 0 ≤ 7302250 by omega)⟩ (AW.k0 (hk (fun r h n => r = some (.int y) ∧ ∃ z m D K, h = wd z m ∧ IV (i + 5) z m n D K) (fun z m n D K h => ⟨rfl, z, m, D, K, rfl, h⟩))) (fun r h2 n2 hq2 => ?_)
  obtain ⟨⟨rfl, z2, m2, D2, K2, rfl, hI2⟩, g2⟩ := hq2
  have hz2 : z2.1 = (L, xs) := (wd_z (g2.trans g0)).trans hz
  show AW _ _ 174 [some (.ref 0), some (.ref 1), some (.ref 37), some (.int (nI i))] [.int y, .int y] (wd z2 m2) n2 (cu + 0 + 0) (su + 0 + 0)
  refine r_icmp_eq 177 860 rfl dL_law_174 rfl (fun _ => ?_) (fun q__ => absurd rfl q__)
  exact kk z2 m2 n2 D2 K2 _ _ hz2 hI2 (show cu + 0 + 0 ≤ cu + 7 by omega) (show su + 0 + 0 ≤ su + 50 by omega)

set_option maxHeartbeats 4000000 in
set_option maxRecDepth 20000 in
theorem cs_blank {nm : String} {Q : am_P} {L : Nat} {xs : Nat → Int32} {z : am_Z} {m : Nat → Nat → Int32} {n cu su i : Nat} {D K : Nat → Nat → Nat} (hz : z.1 = (L, xs)) (hI : IV i z m n D K) (hi : i + 5 ≤ L) (hL : L ≤ 2560) (hcu : cu + 7 ≤ 600000) (hsu : su + 50 ≤ 7302250) (kk : ∀ z' m' n' D' K' cu' su', z'.1 = (L, xs) → IV (i + 5) z' m' n' D' K' → cu' ≤ cu + 7 → su' ≤ su + 50 → AW (mL_law nm) Q 860 [some (.ref 0), some (.ref 1), some (.ref 37), some (.int (nI i))] [] (wd z' m') n' cu' su') : AW (mL_law nm) Q 179 [some (.ref 0), some (.ref 1), some (.ref 37), some (.int (nI i))] [] (wd z m) n cu su := by
  have e0 : wd z m 0 = .inl (0, L, xs) := by show Sum.inl (0, z.1.1, z.1.2) = _; rw [hz]
  refine r_aload_n 180 rfl 1 dL_law_179 rfl rfl ?_
  refine r_callV 183 rfl [] rfl dL_law_180 cl_L_law__X9_blank (lk_L_18 rfl) im_X9_blank (ci := 9) rfl sl_X9__X9_blank rfl (Nat.le_of_ble_eq_true rfl) (fun _ _ => Nat.le_of_ble_eq_true rfl) ⟨(show cu + 0 ≤ 600000 by omega), (show su + 0 ≤ 7302250 by omega)⟩ (AW.k0 (P_blank hI (by omega) )) (fun r h1 n1 hq => ?_)
  obtain ⟨⟨⟨y, rfl⟩, ⟨fs1, g37⟩, hk⟩, g0⟩ := hq
  have f0 : h1 0 = .inl (0, L, xs) := g0.trans e0
  show AW _ _ 183 [some (.ref 0), some (.ref 1), some (.ref 37), some (.int (nI i))] [.int y] h1 n1 (cu + 0) (su + 0)
  refine r_aload_n 184 rfl 2 dL_law_183 rfl rfl ?_
  refine r_callV 187 rfl [] rfl dL_law_184 cl_L_law__X10_blank (lk_L_22 rfl) im_X10_blank (ci := 10) rfl sl_X10__X10_blank g37 (Nat.le_of_ble_eq_true rfl) (fun _ _ => Nat.le_of_ble_eq_true rfl) ⟨(show cu + 0 + 0 ≤ 600000 by omega), (show su + 0 + 0 ≤ 7302250 by omega)⟩ (AW.k0 (hk (fun r h n => r = some (.int y) ∧ ∃ z m D K, h = wd z m ∧ IV (i + 5) z m n D K) (fun z m n D K h => ⟨rfl, z, m, D, K, rfl, h⟩))) (fun r h2 n2 hq2 => ?_)
  obtain ⟨⟨rfl, z2, m2, D2, K2, rfl, hI2⟩, g2⟩ := hq2
  have hz2 : z2.1 = (L, xs) := (wd_z (g2.trans g0)).trans hz
  show AW _ _ 187 [some (.ref 0), some (.ref 1), some (.ref 37), some (.int (nI i))] [.int y, .int y] (wd z2 m2) n2 (cu + 0 + 0) (su + 0 + 0)
  refine r_icmp_eq 190 860 rfl dL_law_187 rfl (fun _ => ?_) (fun q__ => absurd rfl q__)
  exact kk z2 m2 n2 D2 K2 _ _ hz2 hI2 (show cu + 0 + 0 ≤ cu + 7 by omega) (show su + 0 + 0 ≤ su + 50 by omega)

set_option maxHeartbeats 4000000 in
set_option maxRecDepth 20000 in
theorem cs_fault {nm : String} {Q : am_P} {L : Nat} {xs : Nat → Int32} {z : am_Z} {m : Nat → Nat → Int32} {n cu su i : Nat} {D K : Nat → Nat → Nat} (hz : z.1 = (L, xs)) (hI : IV i z m n D K) (hi : i + 5 ≤ L) (hL : L ≤ 2560) (hcu : cu + 7 ≤ 600000) (hsu : su + 50 ≤ 7302250) (kk : ∀ z' m' n' D' K' cu' su', z'.1 = (L, xs) → IV (i + 5) z' m' n' D' K' → cu' ≤ cu + 7 → su' ≤ su + 50 → AW (mL_law nm) Q 860 [some (.ref 0), some (.ref 1), some (.ref 37), some (.int (nI i))] [] (wd z' m') n' cu' su') : AW (mL_law nm) Q 192 [some (.ref 0), some (.ref 1), some (.ref 37), some (.int (nI i))] [] (wd z m) n cu su := by
  have e0 : wd z m 0 = .inl (0, L, xs) := by show Sum.inl (0, z.1.1, z.1.2) = _; rw [hz]
  refine r_aload_n 193 rfl 1 dL_law_192 rfl rfl ?_
  refine r_callV 196 rfl [] rfl dL_law_193 cl_L_law__X9_fault (lk_L_23 rfl) im_X9_fault (ci := 9) rfl sl_X9__X9_fault rfl (Nat.le_of_ble_eq_true rfl) (fun _ _ => Nat.le_of_ble_eq_true rfl) ⟨(show cu + 0 ≤ 600000 by omega), (show su + 0 ≤ 7302250 by omega)⟩ (AW.k0 (P_fault hI (by omega) )) (fun r h1 n1 hq => ?_)
  obtain ⟨⟨⟨y, rfl⟩, ⟨fs1, g37⟩, hk⟩, g0⟩ := hq
  have f0 : h1 0 = .inl (0, L, xs) := g0.trans e0
  show AW _ _ 196 [some (.ref 0), some (.ref 1), some (.ref 37), some (.int (nI i))] [.int y] h1 n1 (cu + 0) (su + 0)
  refine r_aload_n 197 rfl 2 dL_law_196 rfl rfl ?_
  refine r_callV 200 rfl [] rfl dL_law_197 cl_L_law__X10_fault (lk_L_26 rfl) im_X10_fault (ci := 10) rfl sl_X10__X10_fault g37 (Nat.le_of_ble_eq_true rfl) (fun _ _ => Nat.le_of_ble_eq_true rfl) ⟨(show cu + 0 + 0 ≤ 600000 by omega), (show su + 0 + 0 ≤ 7302250 by omega)⟩ (AW.k0 (hk (fun r h n => r = some (.int y) ∧ ∃ z m D K, h = wd z m ∧ IV (i + 5) z m n D K) (fun z m n D K h => ⟨rfl, z, m, D, K, rfl, h⟩))) (fun r h2 n2 hq2 => ?_)
  obtain ⟨⟨rfl, z2, m2, D2, K2, rfl, hI2⟩, g2⟩ := hq2
  have hz2 : z2.1 = (L, xs) := (wd_z (g2.trans g0)).trans hz
  show AW _ _ 200 [some (.ref 0), some (.ref 1), some (.ref 37), some (.int (nI i))] [.int y, .int y] (wd z2 m2) n2 (cu + 0 + 0) (su + 0 + 0)
  refine r_icmp_eq 203 860 rfl dL_law_200 rfl (fun _ => ?_) (fun q__ => absurd rfl q__)
  exact kk z2 m2 n2 D2 K2 _ _ hz2 hI2 (show cu + 0 + 0 ≤ cu + 7 by omega) (show su + 0 + 0 ≤ su + 50 by omega)

set_option maxHeartbeats 4000000 in
set_option maxRecDepth 20000 in
theorem cs_valley {nm : String} {Q : am_P} {L : Nat} {xs : Nat → Int32} {z : am_Z} {m : Nat → Nat → Int32} {n cu su i : Nat} {D K : Nat → Nat → Nat} (hz : z.1 = (L, xs)) (hI : IV i z m n D K) (hi : i + 5 ≤ L) (hL : L ≤ 2560) (hcu : cu + 7 ≤ 600000) (hsu : su + 50 ≤ 7302250) (kk : ∀ z' m' n' D' K' cu' su', z'.1 = (L, xs) → IV (i + 5) z' m' n' D' K' → cu' ≤ cu + 7 → su' ≤ su + 50 → AW (mL_law nm) Q 860 [some (.ref 0), some (.ref 1), some (.ref 37), some (.int (nI i))] [] (wd z' m') n' cu' su') : AW (mL_law nm) Q 205 [some (.ref 0), some (.ref 1), some (.ref 37), some (.int (nI i))] [] (wd z m) n cu su := by
  have e0 : wd z m 0 = .inl (0, L, xs) := by show Sum.inl (0, z.1.1, z.1.2) = _; rw [hz]
  refine r_aload_n 206 rfl 1 dL_law_205 rfl rfl ?_
  refine r_callV 209 rfl [] rfl dL_law_206 cl_L_law__X9_valley (lk_L_27 rfl) im_X9_valley (ci := 9) rfl sl_X9__X9_valley rfl (Nat.le_of_ble_eq_true rfl) (fun _ _ => Nat.le_of_ble_eq_true rfl) ⟨(show cu + 7 ≤ 600000 by omega), (show su + 50 ≤ 7302250 by omega)⟩ (AW.k0 (P_valley hI (by omega) )) (fun r h1 n1 hq => ?_)
  obtain ⟨⟨⟨y, rfl⟩, ⟨fs1, g37⟩, hk⟩, g0⟩ := hq
  have f0 : h1 0 = .inl (0, L, xs) := g0.trans e0
  show AW _ _ 209 [some (.ref 0), some (.ref 1), some (.ref 37), some (.int (nI i))] [.int y] h1 n1 (cu + 7) (su + 50)
  refine r_aload_n 210 rfl 2 dL_law_209 rfl rfl ?_
  refine r_callV 213 rfl [] rfl dL_law_210 cl_L_law__X10_valley (lk_L_30 rfl) im_X10_valley (ci := 10) rfl sl_X10__X10_valley g37 (Nat.le_of_ble_eq_true rfl) (fun _ _ => Nat.le_of_ble_eq_true rfl) ⟨(show cu + 7 + 0 ≤ 600000 by omega), (show su + 50 + 0 ≤ 7302250 by omega)⟩ (AW.k0 (hk (fun r h n => r = some (.int y) ∧ ∃ z m D K, h = wd z m ∧ IV (i + 5) z m n D K) (fun z m n D K h => ⟨rfl, z, m, D, K, rfl, h⟩))) (fun r h2 n2 hq2 => ?_)
  obtain ⟨⟨rfl, z2, m2, D2, K2, rfl, hI2⟩, g2⟩ := hq2
  have hz2 : z2.1 = (L, xs) := (wd_z (g2.trans g0)).trans hz
  show AW _ _ 213 [some (.ref 0), some (.ref 1), some (.ref 37), some (.int (nI i))] [.int y, .int y] (wd z2 m2) n2 (cu + 7 + 0) (su + 50 + 0)
  refine r_icmp_eq 216 860 rfl dL_law_213 rfl (fun _ => ?_) (fun q__ => absurd rfl q__)
  exact kk z2 m2 n2 D2 K2 _ _ hz2 hI2 (show cu + 7 + 0 ≤ cu + 7 by omega) (show su + 50 + 0 ≤ su + 50 by omega)

set_option maxHeartbeats 4000000 in
set_option maxRecDepth 20000 in
theorem cs_cell {nm : String} {Q : am_P} {L : Nat} {xs : Nat → Int32} {z : am_Z} {m : Nat → Nat → Int32} {n cu su i : Nat} {D K : Nat → Nat → Nat} (hz : z.1 = (L, xs)) (hI : IV i z m n D K) (hi : i + 5 ≤ L) (hL : L ≤ 2560) (hcu : cu + 7 ≤ 600000) (hsu : su + 50 ≤ 7302250) (kk : ∀ z' m' n' D' K' cu' su', z'.1 = (L, xs) → IV (i + 5) z' m' n' D' K' → cu' ≤ cu + 7 → su' ≤ su + 50 → AW (mL_law nm) Q 860 [some (.ref 0), some (.ref 1), some (.ref 37), some (.int (nI i))] [] (wd z' m') n' cu' su') : AW (mL_law nm) Q 218 [some (.ref 0), some (.ref 1), some (.ref 37), some (.int (nI i))] [] (wd z m) n cu su := by
  have e0 : wd z m 0 = .inl (0, L, xs) := by show Sum.inl (0, z.1.1, z.1.2) = _; rw [hz]
  refine r_aload_n 219 rfl 1 dL_law_218 rfl rfl ?_
  refine r_aload_n 220 rfl 0 dL_law_219 rfl rfl ?_
  refine r_iload_n 221 rfl 3 dL_law_220 rfl rfl ?_
  refine r_iconst 222 rfl 1 dL_law_221 rfl ?_
  refine r_iadd 223 rfl dL_law_222 ?_
  rw [show (nI i) + 1 = nI (i + 1) from nI_add i 1]
  refine r_iald (f := xs) 224 rfl (i + 1) dL_law_223 e0 rfl (by omega) (by omega) ?_
  refine r_aload_n 225 rfl 0 dL_law_224 rfl rfl ?_
  refine r_iload_n 226 rfl 3 dL_law_225 rfl rfl ?_
  refine r_iconst 227 rfl 2 dL_law_226 rfl ?_
  refine r_iadd 228 rfl dL_law_227 ?_
  rw [show (nI i) + 2 = nI (i + 2) from nI_add i 2]
  refine r_iald (f := xs) 229 rfl (i + 2) dL_law_228 e0 rfl (by omega) (by omega) ?_
  refine r_callV 232 rfl [.int (xs (i + 1)), .int (xs (i + 2))] rfl dL_law_229 cl_L_law__X9_cell (lk_L_31 rfl) im_X9_cell (ci := 9) rfl sl_X9__X9_cell rfl (Nat.le_of_ble_eq_true rfl) (fun _ _ => Nat.le_of_ble_eq_true rfl) ⟨(show cu + 0 ≤ 600000 by omega), (show su + 0 ≤ 7302250 by omega)⟩ (AW.k0 (P_cell hI (by omega) (xs (i + 1)) (xs (i + 2)))) (fun r h1 n1 hq => ?_)
  obtain ⟨⟨⟨y, rfl⟩, ⟨fs1, g37⟩, hk⟩, g0⟩ := hq
  have f0 : h1 0 = .inl (0, L, xs) := g0.trans e0
  show AW _ _ 232 [some (.ref 0), some (.ref 1), some (.ref 37), some (.int (nI i))] [.int y] h1 n1 (cu + 0) (su + 0)
  refine r_aload_n 233 rfl 2 dL_law_232 rfl rfl ?_
  refine r_aload_n 234 rfl 0 dL_law_233 rfl rfl ?_
  refine r_iload_n 235 rfl 3 dL_law_234 rfl rfl ?_
  refine r_iconst 236 rfl 1 dL_law_235 rfl ?_
  refine r_iadd 237 rfl dL_law_236 ?_
  rw [show (nI i) + 1 = nI (i + 1) from nI_add i 1]
  refine r_iald (f := xs) 238 rfl (i + 1) dL_law_237 f0 rfl (by omega) (by omega) ?_
  refine r_aload_n 239 rfl 0 dL_law_238 rfl rfl ?_
  refine r_iload_n 240 rfl 3 dL_law_239 rfl rfl ?_
  refine r_iconst 241 rfl 2 dL_law_240 rfl ?_
  refine r_iadd 242 rfl dL_law_241 ?_
  rw [show (nI i) + 2 = nI (i + 2) from nI_add i 2]
  refine r_iald (f := xs) 243 rfl (i + 2) dL_law_242 f0 rfl (by omega) (by omega) ?_
  refine r_callV 246 rfl [.int (xs (i + 1)), .int (xs (i + 2))] rfl dL_law_243 cl_L_law__X10_cell (lk_L_35 rfl) im_X10_cell (ci := 10) rfl sl_X10__X10_cell g37 (Nat.le_of_ble_eq_true rfl) (fun _ _ => Nat.le_of_ble_eq_true rfl) ⟨(show cu + 0 + 0 ≤ 600000 by omega), (show su + 0 + 0 ≤ 7302250 by omega)⟩ (AW.k0 (hk (fun r h n => r = some (.int y) ∧ ∃ z m D K, h = wd z m ∧ IV (i + 5) z m n D K) (fun z m n D K h => ⟨rfl, z, m, D, K, rfl, h⟩))) (fun r h2 n2 hq2 => ?_)
  obtain ⟨⟨rfl, z2, m2, D2, K2, rfl, hI2⟩, g2⟩ := hq2
  have hz2 : z2.1 = (L, xs) := (wd_z (g2.trans g0)).trans hz
  show AW _ _ 246 [some (.ref 0), some (.ref 1), some (.ref 37), some (.int (nI i))] [.int y, .int y] (wd z2 m2) n2 (cu + 0 + 0) (su + 0 + 0)
  refine r_icmp_eq 249 860 rfl dL_law_246 rfl (fun _ => ?_) (fun q__ => absurd rfl q__)
  exact kk z2 m2 n2 D2 K2 _ _ hz2 hI2 (show cu + 0 + 0 ≤ cu + 7 by omega) (show su + 0 + 0 ≤ su + 50 by omega)

set_option maxHeartbeats 4000000 in
set_option maxRecDepth 20000 in
theorem cs_borders {nm : String} {Q : am_P} {L : Nat} {xs : Nat → Int32} {z : am_Z} {m : Nat → Nat → Int32} {n cu su i : Nat} {D K : Nat → Nat → Nat} (hz : z.1 = (L, xs)) (hI : IV i z m n D K) (hi : i + 5 ≤ L) (hL : L ≤ 2560) (hcu : cu + 7 ≤ 600000) (hsu : su + 50 ≤ 7302250) (kk : ∀ z' m' n' D' K' cu' su', z'.1 = (L, xs) → IV (i + 5) z' m' n' D' K' → cu' ≤ cu + 7 → su' ≤ su + 50 → AW (mL_law nm) Q 860 [some (.ref 0), some (.ref 1), some (.ref 37), some (.int (nI i))] [] (wd z' m') n' cu' su') : AW (mL_law nm) Q 251 [some (.ref 0), some (.ref 1), some (.ref 37), some (.int (nI i))] [] (wd z m) n cu su := by
  have e0 : wd z m 0 = .inl (0, L, xs) := by show Sum.inl (0, z.1.1, z.1.2) = _; rw [hz]
  refine r_aload_n 252 rfl 1 dL_law_251 rfl rfl ?_
  refine r_callV 255 rfl [] rfl dL_law_252 cl_L_law__X9_borders (lk_L_36 rfl) im_X9_borders (ci := 9) rfl sl_X9__X9_borders rfl (Nat.le_of_ble_eq_true rfl) (fun _ _ => Nat.le_of_ble_eq_true rfl) ⟨(show cu + 0 ≤ 600000 by omega), (show su + 0 ≤ 7302250 by omega)⟩ (AW.k0 (P_borders hI (by omega) )) (fun r h1 n1 hq => ?_)
  obtain ⟨⟨⟨y, rfl⟩, ⟨fs1, g37⟩, hk⟩, g0⟩ := hq
  have f0 : h1 0 = .inl (0, L, xs) := g0.trans e0
  show AW _ _ 255 [some (.ref 0), some (.ref 1), some (.ref 37), some (.int (nI i))] [.int y] h1 n1 (cu + 0) (su + 0)
  refine r_aload_n 256 rfl 2 dL_law_255 rfl rfl ?_
  refine r_callV 259 rfl [] rfl dL_law_256 cl_L_law__X10_borders (lk_L_39 rfl) im_X10_borders (ci := 10) rfl sl_X10__X10_borders g37 (Nat.le_of_ble_eq_true rfl) (fun _ _ => Nat.le_of_ble_eq_true rfl) ⟨(show cu + 0 + 0 ≤ 600000 by omega), (show su + 0 + 0 ≤ 7302250 by omega)⟩ (AW.k0 (hk (fun r h n => r = some (.int y) ∧ ∃ z m D K, h = wd z m ∧ IV (i + 5) z m n D K) (fun z m n D K h => ⟨rfl, z, m, D, K, rfl, h⟩))) (fun r h2 n2 hq2 => ?_)
  obtain ⟨⟨rfl, z2, m2, D2, K2, rfl, hI2⟩, g2⟩ := hq2
  have hz2 : z2.1 = (L, xs) := (wd_z (g2.trans g0)).trans hz
  show AW _ _ 259 [some (.ref 0), some (.ref 1), some (.ref 37), some (.int (nI i))] [.int y, .int y] (wd z2 m2) n2 (cu + 0 + 0) (su + 0 + 0)
  refine r_icmp_eq 262 860 rfl dL_law_259 rfl (fun _ => ?_) (fun q__ => absurd rfl q__)
  exact kk z2 m2 n2 D2 K2 _ _ hz2 hI2 (show cu + 0 + 0 ≤ cu + 7 by omega) (show su + 0 + 0 ≤ su + 50 by omega)

set_option maxHeartbeats 4000000 in
set_option maxRecDepth 20000 in
theorem cs_source {nm : String} {Q : am_P} {L : Nat} {xs : Nat → Int32} {z : am_Z} {m : Nat → Nat → Int32} {n cu su i : Nat} {D K : Nat → Nat → Nat} (hz : z.1 = (L, xs)) (hI : IV i z m n D K) (hi : i + 5 ≤ L) (hL : L ≤ 2560) (hcu : cu + 7 ≤ 600000) (hsu : su + 50 ≤ 7302250) (kk : ∀ z' m' n' D' K' cu' su', z'.1 = (L, xs) → IV (i + 5) z' m' n' D' K' → cu' ≤ cu + 7 → su' ≤ su + 50 → AW (mL_law nm) Q 860 [some (.ref 0), some (.ref 1), some (.ref 37), some (.int (nI i))] [] (wd z' m') n' cu' su') : AW (mL_law nm) Q 264 [some (.ref 0), some (.ref 1), some (.ref 37), some (.int (nI i))] [] (wd z m) n cu su := by
  have e0 : wd z m 0 = .inl (0, L, xs) := by show Sum.inl (0, z.1.1, z.1.2) = _; rw [hz]
  refine r_aload_n 265 rfl 1 dL_law_264 rfl rfl ?_
  refine r_aload_n 266 rfl 0 dL_law_265 rfl rfl ?_
  refine r_iload_n 267 rfl 3 dL_law_266 rfl rfl ?_
  refine r_iconst 268 rfl 1 dL_law_267 rfl ?_
  refine r_iadd 269 rfl dL_law_268 ?_
  rw [show (nI i) + 1 = nI (i + 1) from nI_add i 1]
  refine r_iald (f := xs) 270 rfl (i + 1) dL_law_269 e0 rfl (by omega) (by omega) ?_
  refine r_aload_n 271 rfl 0 dL_law_270 rfl rfl ?_
  refine r_iload_n 272 rfl 3 dL_law_271 rfl rfl ?_
  refine r_iconst 273 rfl 2 dL_law_272 rfl ?_
  refine r_iadd 274 rfl dL_law_273 ?_
  rw [show (nI i) + 2 = nI (i + 2) from nI_add i 2]
  refine r_iald (f := xs) 275 rfl (i + 2) dL_law_274 e0 rfl (by omega) (by omega) ?_
  refine r_aload_n 276 rfl 0 dL_law_275 rfl rfl ?_
  refine r_iload_n 277 rfl 3 dL_law_276 rfl rfl ?_
  refine r_iconst 278 rfl 3 dL_law_277 rfl ?_
  refine r_iadd 279 rfl dL_law_278 ?_
  rw [show (nI i) + 3 = nI (i + 3) from nI_add i 3]
  refine r_iald (f := xs) 280 rfl (i + 3) dL_law_279 e0 rfl (by omega) (by omega) ?_
  refine r_aload_n 281 rfl 0 dL_law_280 rfl rfl ?_
  refine r_iload_n 282 rfl 3 dL_law_281 rfl rfl ?_
  refine r_iconst 283 rfl 4 dL_law_282 rfl ?_
  refine r_iadd 284 rfl dL_law_283 ?_
  rw [show (nI i) + 4 = nI (i + 4) from nI_add i 4]
  refine r_iald (f := xs) 285 rfl (i + 4) dL_law_284 e0 rfl (by omega) (by omega) ?_
  refine r_callV 288 rfl [.int (xs (i + 1)), .int (xs (i + 2)), .int (xs (i + 3)), .int (xs (i + 4))] rfl dL_law_285 cl_L_law__X9_source (lk_L_40 rfl) im_X9_source (ci := 9) rfl sl_X9__X9_source rfl (Nat.le_of_ble_eq_true rfl) (fun _ _ => Nat.le_of_ble_eq_true rfl) ⟨(show cu + 1 ≤ 600000 by omega), (show su + 3 ≤ 7302250 by omega)⟩ (AW.k0 (P_source hI (by omega) (xs (i + 1)) (xs (i + 2)) (xs (i + 3)) (xs (i + 4)))) (fun r h1 n1 hq => ?_)
  obtain ⟨⟨⟨y, rfl⟩, ⟨fs1, g37⟩, hk⟩, g0⟩ := hq
  have f0 : h1 0 = .inl (0, L, xs) := g0.trans e0
  show AW _ _ 288 [some (.ref 0), some (.ref 1), some (.ref 37), some (.int (nI i))] [.int y] h1 n1 (cu + 1) (su + 3)
  refine r_aload_n 289 rfl 2 dL_law_288 rfl rfl ?_
  refine r_aload_n 290 rfl 0 dL_law_289 rfl rfl ?_
  refine r_iload_n 291 rfl 3 dL_law_290 rfl rfl ?_
  refine r_iconst 292 rfl 1 dL_law_291 rfl ?_
  refine r_iadd 293 rfl dL_law_292 ?_
  rw [show (nI i) + 1 = nI (i + 1) from nI_add i 1]
  refine r_iald (f := xs) 294 rfl (i + 1) dL_law_293 f0 rfl (by omega) (by omega) ?_
  refine r_aload_n 295 rfl 0 dL_law_294 rfl rfl ?_
  refine r_iload_n 296 rfl 3 dL_law_295 rfl rfl ?_
  refine r_iconst 297 rfl 2 dL_law_296 rfl ?_
  refine r_iadd 298 rfl dL_law_297 ?_
  rw [show (nI i) + 2 = nI (i + 2) from nI_add i 2]
  refine r_iald (f := xs) 299 rfl (i + 2) dL_law_298 f0 rfl (by omega) (by omega) ?_
  refine r_aload_n 300 rfl 0 dL_law_299 rfl rfl ?_
  refine r_iload_n 301 rfl 3 dL_law_300 rfl rfl ?_
  refine r_iconst 302 rfl 3 dL_law_301 rfl ?_
  refine r_iadd 303 rfl dL_law_302 ?_
  rw [show (nI i) + 3 = nI (i + 3) from nI_add i 3]
  refine r_iald (f := xs) 304 rfl (i + 3) dL_law_303 f0 rfl (by omega) (by omega) ?_
  refine r_aload_n 305 rfl 0 dL_law_304 rfl rfl ?_
  refine r_iload_n 306 rfl 3 dL_law_305 rfl rfl ?_
  refine r_iconst 307 rfl 4 dL_law_306 rfl ?_
  refine r_iadd 308 rfl dL_law_307 ?_
  rw [show (nI i) + 4 = nI (i + 4) from nI_add i 4]
  refine r_iald (f := xs) 309 rfl (i + 4) dL_law_308 f0 rfl (by omega) (by omega) ?_
  refine r_callV 312 rfl [.int (xs (i + 1)), .int (xs (i + 2)), .int (xs (i + 3)), .int (xs (i + 4))] rfl dL_law_309 cl_L_law__X10_source (lk_L_44 rfl) im_X10_source (ci := 10) rfl sl_X10__X10_source g37 (Nat.le_of_ble_eq_true rfl) (fun _ _ => Nat.le_of_ble_eq_true rfl) ⟨(show cu + 1 + 0 ≤ 600000 by omega), (show su + 3 + 0 ≤ 7302250 by omega)⟩ (AW.k0 (hk (fun r h n => r = some (.int y) ∧ ∃ z m D K, h = wd z m ∧ IV (i + 5) z m n D K) (fun z m n D K h => ⟨rfl, z, m, D, K, rfl, h⟩))) (fun r h2 n2 hq2 => ?_)
  obtain ⟨⟨rfl, z2, m2, D2, K2, rfl, hI2⟩, g2⟩ := hq2
  have hz2 : z2.1 = (L, xs) := (wd_z (g2.trans g0)).trans hz
  show AW _ _ 312 [some (.ref 0), some (.ref 1), some (.ref 37), some (.int (nI i))] [.int y, .int y] (wd z2 m2) n2 (cu + 1 + 0) (su + 3 + 0)
  refine r_icmp_eq 315 860 rfl dL_law_312 rfl (fun _ => ?_) (fun q__ => absurd rfl q__)
  exact kk z2 m2 n2 D2 K2 _ _ hz2 hI2 (show cu + 1 + 0 ≤ cu + 7 by omega) (show su + 3 + 0 ≤ su + 50 by omega)

set_option maxHeartbeats 4000000 in
set_option maxRecDepth 20000 in
theorem cs_about {nm : String} {Q : am_P} {L : Nat} {xs : Nat → Int32} {z : am_Z} {m : Nat → Nat → Int32} {n cu su i : Nat} {D K : Nat → Nat → Nat} (hz : z.1 = (L, xs)) (hI : IV i z m n D K) (hi : i + 5 ≤ L) (hL : L ≤ 2560) (hcu : cu + 7 ≤ 600000) (hsu : su + 50 ≤ 7302250) (kk : ∀ z' m' n' D' K' cu' su', z'.1 = (L, xs) → IV (i + 5) z' m' n' D' K' → cu' ≤ cu + 7 → su' ≤ su + 50 → AW (mL_law nm) Q 860 [some (.ref 0), some (.ref 1), some (.ref 37), some (.int (nI i))] [] (wd z' m') n' cu' su') : AW (mL_law nm) Q 317 [some (.ref 0), some (.ref 1), some (.ref 37), some (.int (nI i))] [] (wd z m) n cu su := by
  have e0 : wd z m 0 = .inl (0, L, xs) := by show Sum.inl (0, z.1.1, z.1.2) = _; rw [hz]
  refine r_aload_n 318 rfl 1 dL_law_317 rfl rfl ?_
  refine r_aload_n 319 rfl 0 dL_law_318 rfl rfl ?_
  refine r_iload_n 320 rfl 3 dL_law_319 rfl rfl ?_
  refine r_iconst 321 rfl 1 dL_law_320 rfl ?_
  refine r_iadd 322 rfl dL_law_321 ?_
  rw [show (nI i) + 1 = nI (i + 1) from nI_add i 1]
  refine r_iald (f := xs) 323 rfl (i + 1) dL_law_322 e0 rfl (by omega) (by omega) ?_
  refine r_aload_n 324 rfl 0 dL_law_323 rfl rfl ?_
  refine r_iload_n 325 rfl 3 dL_law_324 rfl rfl ?_
  refine r_iconst 326 rfl 2 dL_law_325 rfl ?_
  refine r_iadd 327 rfl dL_law_326 ?_
  rw [show (nI i) + 2 = nI (i + 2) from nI_add i 2]
  refine r_iald (f := xs) 328 rfl (i + 2) dL_law_327 e0 rfl (by omega) (by omega) ?_
  refine r_callV 331 rfl [.int (xs (i + 1)), .int (xs (i + 2))] rfl dL_law_328 cl_L_law__X9_about (lk_L_45 rfl) im_X9_about (ci := 9) rfl sl_X9__X9_about rfl (Nat.le_of_ble_eq_true rfl) (fun _ _ => Nat.le_of_ble_eq_true rfl) ⟨(show cu + 0 ≤ 600000 by omega), (show su + 0 ≤ 7302250 by omega)⟩ (AW.k0 (P_about hI (by omega) (xs (i + 1)) (xs (i + 2)))) (fun r h1 n1 hq => ?_)
  obtain ⟨⟨⟨y, rfl⟩, ⟨fs1, g37⟩, hk⟩, g0⟩ := hq
  have f0 : h1 0 = .inl (0, L, xs) := g0.trans e0
  show AW _ _ 331 [some (.ref 0), some (.ref 1), some (.ref 37), some (.int (nI i))] [.int y] h1 n1 (cu + 0) (su + 0)
  refine r_aload_n 332 rfl 2 dL_law_331 rfl rfl ?_
  refine r_aload_n 333 rfl 0 dL_law_332 rfl rfl ?_
  refine r_iload_n 334 rfl 3 dL_law_333 rfl rfl ?_
  refine r_iconst 335 rfl 1 dL_law_334 rfl ?_
  refine r_iadd 336 rfl dL_law_335 ?_
  rw [show (nI i) + 1 = nI (i + 1) from nI_add i 1]
  refine r_iald (f := xs) 337 rfl (i + 1) dL_law_336 f0 rfl (by omega) (by omega) ?_
  refine r_aload_n 338 rfl 0 dL_law_337 rfl rfl ?_
  refine r_iload_n 339 rfl 3 dL_law_338 rfl rfl ?_
  refine r_iconst 340 rfl 2 dL_law_339 rfl ?_
  refine r_iadd 341 rfl dL_law_340 ?_
  rw [show (nI i) + 2 = nI (i + 2) from nI_add i 2]
  refine r_iald (f := xs) 342 rfl (i + 2) dL_law_341 f0 rfl (by omega) (by omega) ?_
  refine r_callV 345 rfl [.int (xs (i + 1)), .int (xs (i + 2))] rfl dL_law_342 cl_L_law__X10_about (lk_L_48 rfl) im_X10_about (ci := 10) rfl sl_X10__X10_about g37 (Nat.le_of_ble_eq_true rfl) (fun _ _ => Nat.le_of_ble_eq_true rfl) ⟨(show cu + 0 + 0 ≤ 600000 by omega), (show su + 0 + 0 ≤ 7302250 by omega)⟩ (AW.k0 (hk (fun r h n => r = some (.int y) ∧ ∃ z m D K, h = wd z m ∧ IV (i + 5) z m n D K) (fun z m n D K h => ⟨rfl, z, m, D, K, rfl, h⟩))) (fun r h2 n2 hq2 => ?_)
  obtain ⟨⟨rfl, z2, m2, D2, K2, rfl, hI2⟩, g2⟩ := hq2
  have hz2 : z2.1 = (L, xs) := (wd_z (g2.trans g0)).trans hz
  show AW _ _ 345 [some (.ref 0), some (.ref 1), some (.ref 37), some (.int (nI i))] [.int y, .int y] (wd z2 m2) n2 (cu + 0 + 0) (su + 0 + 0)
  refine r_icmp_eq 348 860 rfl dL_law_345 rfl (fun _ => ?_) (fun q__ => absurd rfl q__)
  exact kk z2 m2 n2 D2 K2 _ _ hz2 hI2 (show cu + 0 + 0 ≤ cu + 7 by omega) (show su + 0 + 0 ≤ su + 50 by omega)

set_option maxHeartbeats 4000000 in
set_option maxRecDepth 20000 in
theorem cs_as {nm : String} {Q : am_P} {L : Nat} {xs : Nat → Int32} {z : am_Z} {m : Nat → Nat → Int32} {n cu su i : Nat} {D K : Nat → Nat → Nat} (hz : z.1 = (L, xs)) (hI : IV i z m n D K) (hi : i + 5 ≤ L) (hL : L ≤ 2560) (hcu : cu + 7 ≤ 600000) (hsu : su + 50 ≤ 7302250) (kk : ∀ z' m' n' D' K' cu' su', z'.1 = (L, xs) → IV (i + 5) z' m' n' D' K' → cu' ≤ cu + 7 → su' ≤ su + 50 → AW (mL_law nm) Q 860 [some (.ref 0), some (.ref 1), some (.ref 37), some (.int (nI i))] [] (wd z' m') n' cu' su') : AW (mL_law nm) Q 350 [some (.ref 0), some (.ref 1), some (.ref 37), some (.int (nI i))] [] (wd z m) n cu su := by
  have e0 : wd z m 0 = .inl (0, L, xs) := by show Sum.inl (0, z.1.1, z.1.2) = _; rw [hz]
  refine r_aload_n 351 rfl 1 dL_law_350 rfl rfl ?_
  refine r_aload_n 352 rfl 0 dL_law_351 rfl rfl ?_
  refine r_iload_n 353 rfl 3 dL_law_352 rfl rfl ?_
  refine r_iconst 354 rfl 1 dL_law_353 rfl ?_
  refine r_iadd 355 rfl dL_law_354 ?_
  rw [show (nI i) + 1 = nI (i + 1) from nI_add i 1]
  refine r_iald (f := xs) 356 rfl (i + 1) dL_law_355 e0 rfl (by omega) (by omega) ?_
  refine r_aload_n 357 rfl 0 dL_law_356 rfl rfl ?_
  refine r_iload_n 358 rfl 3 dL_law_357 rfl rfl ?_
  refine r_iconst 359 rfl 2 dL_law_358 rfl ?_
  refine r_iadd 360 rfl dL_law_359 ?_
  rw [show (nI i) + 2 = nI (i + 2) from nI_add i 2]
  refine r_iald (f := xs) 361 rfl (i + 2) dL_law_360 e0 rfl (by omega) (by omega) ?_
  refine r_callV 364 rfl [.int (xs (i + 1)), .int (xs (i + 2))] rfl dL_law_361 cl_L_law__X9_as (lk_L_49 rfl) im_X9_as (ci := 9) rfl sl_X9__X9_as rfl (Nat.le_of_ble_eq_true rfl) (fun _ _ => Nat.le_of_ble_eq_true rfl) ⟨(show cu + 0 ≤ 600000 by omega), (show su + 0 ≤ 7302250 by omega)⟩ (AW.k0 (P_as hI (by omega) (xs (i + 1)) (xs (i + 2)))) (fun r h1 n1 hq => ?_)
  obtain ⟨⟨⟨y, rfl⟩, ⟨fs1, g37⟩, hk⟩, g0⟩ := hq
  have f0 : h1 0 = .inl (0, L, xs) := g0.trans e0
  show AW _ _ 364 [some (.ref 0), some (.ref 1), some (.ref 37), some (.int (nI i))] [.int y] h1 n1 (cu + 0) (su + 0)
  refine r_aload_n 365 rfl 2 dL_law_364 rfl rfl ?_
  refine r_aload_n 366 rfl 0 dL_law_365 rfl rfl ?_
  refine r_iload_n 367 rfl 3 dL_law_366 rfl rfl ?_
  refine r_iconst 368 rfl 1 dL_law_367 rfl ?_
  refine r_iadd 369 rfl dL_law_368 ?_
  rw [show (nI i) + 1 = nI (i + 1) from nI_add i 1]
  refine r_iald (f := xs) 370 rfl (i + 1) dL_law_369 f0 rfl (by omega) (by omega) ?_
  refine r_aload_n 371 rfl 0 dL_law_370 rfl rfl ?_
  refine r_iload_n 372 rfl 3 dL_law_371 rfl rfl ?_
  refine r_iconst 373 rfl 2 dL_law_372 rfl ?_
  refine r_iadd 374 rfl dL_law_373 ?_
  rw [show (nI i) + 2 = nI (i + 2) from nI_add i 2]
  refine r_iald (f := xs) 375 rfl (i + 2) dL_law_374 f0 rfl (by omega) (by omega) ?_
  refine r_callV 378 rfl [.int (xs (i + 1)), .int (xs (i + 2))] rfl dL_law_375 cl_L_law__X10_as (lk_L_52 rfl) im_X10_as (ci := 10) rfl sl_X10__X10_as g37 (Nat.le_of_ble_eq_true rfl) (fun _ _ => Nat.le_of_ble_eq_true rfl) ⟨(show cu + 0 + 0 ≤ 600000 by omega), (show su + 0 + 0 ≤ 7302250 by omega)⟩ (AW.k0 (hk (fun r h n => r = some (.int y) ∧ ∃ z m D K, h = wd z m ∧ IV (i + 5) z m n D K) (fun z m n D K h => ⟨rfl, z, m, D, K, rfl, h⟩))) (fun r h2 n2 hq2 => ?_)
  obtain ⟨⟨rfl, z2, m2, D2, K2, rfl, hI2⟩, g2⟩ := hq2
  have hz2 : z2.1 = (L, xs) := (wd_z (g2.trans g0)).trans hz
  show AW _ _ 378 [some (.ref 0), some (.ref 1), some (.ref 37), some (.int (nI i))] [.int y, .int y] (wd z2 m2) n2 (cu + 0 + 0) (su + 0 + 0)
  refine r_icmp_eq 381 860 rfl dL_law_378 rfl (fun _ => ?_) (fun q__ => absurd rfl q__)
  exact kk z2 m2 n2 D2 K2 _ _ hz2 hI2 (show cu + 0 + 0 ≤ cu + 7 by omega) (show su + 0 + 0 ≤ su + 50 by omega)

set_option maxHeartbeats 4000000 in
set_option maxRecDepth 20000 in
theorem cs_burn {nm : String} {Q : am_P} {L : Nat} {xs : Nat → Int32} {z : am_Z} {m : Nat → Nat → Int32} {n cu su i : Nat} {D K : Nat → Nat → Nat} (hz : z.1 = (L, xs)) (hI : IV i z m n D K) (hi : i + 5 ≤ L) (hL : L ≤ 2560) (hcu : cu + 7 ≤ 600000) (hsu : su + 50 ≤ 7302250) (kk : ∀ z' m' n' D' K' cu' su', z'.1 = (L, xs) → IV (i + 5) z' m' n' D' K' → cu' ≤ cu + 7 → su' ≤ su + 50 → AW (mL_law nm) Q 860 [some (.ref 0), some (.ref 1), some (.ref 37), some (.int (nI i))] [] (wd z' m') n' cu' su') : AW (mL_law nm) Q 383 [some (.ref 0), some (.ref 1), some (.ref 37), some (.int (nI i))] [] (wd z m) n cu su := by
  have e0 : wd z m 0 = .inl (0, L, xs) := by show Sum.inl (0, z.1.1, z.1.2) = _; rw [hz]
  refine r_aload_n 384 rfl 1 dL_law_383 rfl rfl ?_
  refine r_aload_n 385 rfl 0 dL_law_384 rfl rfl ?_
  refine r_iload_n 386 rfl 3 dL_law_385 rfl rfl ?_
  refine r_iconst 387 rfl 1 dL_law_386 rfl ?_
  refine r_iadd 388 rfl dL_law_387 ?_
  rw [show (nI i) + 1 = nI (i + 1) from nI_add i 1]
  refine r_iald (f := xs) 389 rfl (i + 1) dL_law_388 e0 rfl (by omega) (by omega) ?_
  refine r_aload_n 390 rfl 0 dL_law_389 rfl rfl ?_
  refine r_iload_n 391 rfl 3 dL_law_390 rfl rfl ?_
  refine r_iconst 392 rfl 2 dL_law_391 rfl ?_
  refine r_iadd 393 rfl dL_law_392 ?_
  rw [show (nI i) + 2 = nI (i + 2) from nI_add i 2]
  refine r_iald (f := xs) 394 rfl (i + 2) dL_law_393 e0 rfl (by omega) (by omega) ?_
  refine r_if_eq 397 401 rfl dL_law_394 rfl (fun cb => ?_) (fun cb => ?_)
  · refine r_iconst 402 rfl 0 dL_law_401 rfl ?_
    refine r_callV 405 rfl [.int (xs (i + 1)), .int 0] rfl dL_law_402 cl_L_law__X9_burn (lk_L_53 rfl) im_X9_burn (ci := 9) rfl sl_X9__X9_burn rfl (Nat.le_of_ble_eq_true rfl) (fun _ _ => Nat.le_of_ble_eq_true rfl) ⟨(show cu + 0 ≤ 600000 by omega), (show su + 0 ≤ 7302250 by omega)⟩ (AW.k0 (P_burn hI (by omega) (xs (i + 1)) (b := 0) (by decide))) (fun r h1 n1 hq => ?_)
    obtain ⟨⟨⟨y, rfl⟩, ⟨fs1, g37⟩, hk⟩, g0⟩ := hq
    have f0 : h1 0 = .inl (0, L, xs) := g0.trans e0
    show AW _ _ 405 [some (.ref 0), some (.ref 1), some (.ref 37), some (.int (nI i))] [.int y] h1 n1 (cu + 0) (su + 0)
    refine r_aload_n 406 rfl 2 dL_law_405 rfl rfl ?_
    refine r_aload_n 407 rfl 0 dL_law_406 rfl rfl ?_
    refine r_iload_n 408 rfl 3 dL_law_407 rfl rfl ?_
    refine r_iconst 409 rfl 1 dL_law_408 rfl ?_
    refine r_iadd 410 rfl dL_law_409 ?_
    rw [show (nI i) + 1 = nI (i + 1) from nI_add i 1]
    refine r_iald (f := xs) 411 rfl (i + 1) dL_law_410 f0 rfl (by omega) (by omega) ?_
    refine r_aload_n 412 rfl 0 dL_law_411 rfl rfl ?_
    refine r_iload_n 413 rfl 3 dL_law_412 rfl rfl ?_
    refine r_iconst 414 rfl 2 dL_law_413 rfl ?_
    refine r_iadd 415 rfl dL_law_414 ?_
    rw [show (nI i) + 2 = nI (i + 2) from nI_add i 2]
    refine r_iald (f := xs) 416 rfl (i + 2) dL_law_415 f0 rfl (by omega) (by omega) ?_
    refine r_if_eq 419 423 rfl dL_law_416 rfl (fun _ => ?_) (fun q__ => absurd cb q__)
    refine r_iconst 424 rfl 0 dL_law_423 rfl ?_
    refine r_callV 427 rfl [.int (xs (i + 1)), .int 0] rfl dL_law_424 cl_L_law__X10_burn (lk_L_57 rfl) im_X10_burn (ci := 10) rfl sl_X10__X10_burn g37 (Nat.le_of_ble_eq_true rfl) (fun _ _ => Nat.le_of_ble_eq_true rfl) ⟨(show cu + 0 + 0 ≤ 600000 by omega), (show su + 0 + 0 ≤ 7302250 by omega)⟩ (AW.k0 (hk (fun r h n => r = some (.int y) ∧ ∃ z m D K, h = wd z m ∧ IV (i + 5) z m n D K) (fun z m n D K h => ⟨rfl, z, m, D, K, rfl, h⟩))) (fun r h2 n2 hq2 => ?_)
    obtain ⟨⟨rfl, z2, m2, D2, K2, rfl, hI2⟩, g2⟩ := hq2
    have hz2 : z2.1 = (L, xs) := (wd_z (g2.trans g0)).trans hz
    show AW _ _ 427 [some (.ref 0), some (.ref 1), some (.ref 37), some (.int (nI i))] [.int y, .int y] (wd z2 m2) n2 (cu + 0 + 0) (su + 0 + 0)
    refine r_icmp_eq 430 860 rfl dL_law_427 rfl (fun _ => ?_) (fun q__ => absurd rfl q__)
    exact kk z2 m2 n2 D2 K2 _ _ hz2 hI2 (show cu + 0 + 0 ≤ cu + 7 by omega) (show su + 0 + 0 ≤ su + 50 by omega)
  · refine r_iconst 398 rfl 1 dL_law_397 rfl ?_
    refine r_goto 402 dL_law_398 rfl ?_
    refine r_callV 405 rfl [.int (xs (i + 1)), .int 1] rfl dL_law_402 cl_L_law__X9_burn (lk_L_53 rfl) im_X9_burn (ci := 9) rfl sl_X9__X9_burn rfl (Nat.le_of_ble_eq_true rfl) (fun _ _ => Nat.le_of_ble_eq_true rfl) ⟨(show cu + 0 ≤ 600000 by omega), (show su + 0 ≤ 7302250 by omega)⟩ (AW.k0 (P_burn hI (by omega) (xs (i + 1)) (b := 1) (by decide))) (fun r h1 n1 hq => ?_)
    obtain ⟨⟨⟨y, rfl⟩, ⟨fs1, g37⟩, hk⟩, g0⟩ := hq
    have f0 : h1 0 = .inl (0, L, xs) := g0.trans e0
    show AW _ _ 405 [some (.ref 0), some (.ref 1), some (.ref 37), some (.int (nI i))] [.int y] h1 n1 (cu + 0) (su + 0)
    refine r_aload_n 406 rfl 2 dL_law_405 rfl rfl ?_
    refine r_aload_n 407 rfl 0 dL_law_406 rfl rfl ?_
    refine r_iload_n 408 rfl 3 dL_law_407 rfl rfl ?_
    refine r_iconst 409 rfl 1 dL_law_408 rfl ?_
    refine r_iadd 410 rfl dL_law_409 ?_
    rw [show (nI i) + 1 = nI (i + 1) from nI_add i 1]
    refine r_iald (f := xs) 411 rfl (i + 1) dL_law_410 f0 rfl (by omega) (by omega) ?_
    refine r_aload_n 412 rfl 0 dL_law_411 rfl rfl ?_
    refine r_iload_n 413 rfl 3 dL_law_412 rfl rfl ?_
    refine r_iconst 414 rfl 2 dL_law_413 rfl ?_
    refine r_iadd 415 rfl dL_law_414 ?_
    rw [show (nI i) + 2 = nI (i + 2) from nI_add i 2]
    refine r_iald (f := xs) 416 rfl (i + 2) dL_law_415 f0 rfl (by omega) (by omega) ?_
    refine r_if_eq 419 423 rfl dL_law_416 rfl (fun q__ => absurd q__ cb) (fun _ => ?_)
    refine r_iconst 420 rfl 1 dL_law_419 rfl ?_
    refine r_goto 424 dL_law_420 rfl ?_
    refine r_callV 427 rfl [.int (xs (i + 1)), .int 1] rfl dL_law_424 cl_L_law__X10_burn (lk_L_57 rfl) im_X10_burn (ci := 10) rfl sl_X10__X10_burn g37 (Nat.le_of_ble_eq_true rfl) (fun _ _ => Nat.le_of_ble_eq_true rfl) ⟨(show cu + 0 + 0 ≤ 600000 by omega), (show su + 0 + 0 ≤ 7302250 by omega)⟩ (AW.k0 (hk (fun r h n => r = some (.int y) ∧ ∃ z m D K, h = wd z m ∧ IV (i + 5) z m n D K) (fun z m n D K h => ⟨rfl, z, m, D, K, rfl, h⟩))) (fun r h2 n2 hq2 => ?_)
    obtain ⟨⟨rfl, z2, m2, D2, K2, rfl, hI2⟩, g2⟩ := hq2
    have hz2 : z2.1 = (L, xs) := (wd_z (g2.trans g0)).trans hz
    show AW _ _ 427 [some (.ref 0), some (.ref 1), some (.ref 37), some (.int (nI i))] [.int y, .int y] (wd z2 m2) n2 (cu + 0 + 0) (su + 0 + 0)
    refine r_icmp_eq 430 860 rfl dL_law_427 rfl (fun _ => ?_) (fun q__ => absurd rfl q__)
    exact kk z2 m2 n2 D2 K2 _ _ hz2 hI2 (show cu + 0 + 0 ≤ cu + 7 by omega) (show su + 0 + 0 ≤ su + 50 by omega)

set_option maxHeartbeats 4000000 in
set_option maxRecDepth 20000 in
theorem cs_wind {nm : String} {Q : am_P} {L : Nat} {xs : Nat → Int32} {z : am_Z} {m : Nat → Nat → Int32} {n cu su i : Nat} {D K : Nat → Nat → Nat} (hz : z.1 = (L, xs)) (hI : IV i z m n D K) (hi : i + 5 ≤ L) (hL : L ≤ 2560) (hcu : cu + 7 ≤ 600000) (hsu : su + 50 ≤ 7302250) (kk : ∀ z' m' n' D' K' cu' su', z'.1 = (L, xs) → IV (i + 5) z' m' n' D' K' → cu' ≤ cu + 7 → su' ≤ su + 50 → AW (mL_law nm) Q 860 [some (.ref 0), some (.ref 1), some (.ref 37), some (.int (nI i))] [] (wd z' m') n' cu' su') : AW (mL_law nm) Q 432 [some (.ref 0), some (.ref 1), some (.ref 37), some (.int (nI i))] [] (wd z m) n cu su := by
  have e0 : wd z m 0 = .inl (0, L, xs) := by show Sum.inl (0, z.1.1, z.1.2) = _; rw [hz]
  refine r_aload_n 433 rfl 1 dL_law_432 rfl rfl ?_
  refine r_aload_n 434 rfl 0 dL_law_433 rfl rfl ?_
  refine r_iload_n 435 rfl 3 dL_law_434 rfl rfl ?_
  refine r_iconst 436 rfl 1 dL_law_435 rfl ?_
  refine r_iadd 437 rfl dL_law_436 ?_
  rw [show (nI i) + 1 = nI (i + 1) from nI_add i 1]
  refine r_iald (f := xs) 438 rfl (i + 1) dL_law_437 e0 rfl (by omega) (by omega) ?_
  refine r_callV 441 rfl [.int (xs (i + 1))] rfl dL_law_438 cl_L_law__X9_wind (lk_L_58 rfl) im_X9_wind (ci := 9) rfl sl_X9__X9_wind rfl (Nat.le_of_ble_eq_true rfl) (fun _ _ => Nat.le_of_ble_eq_true rfl) ⟨(show cu + 0 ≤ 600000 by omega), (show su + 0 ≤ 7302250 by omega)⟩ (AW.k0 (P_wind hI (by omega) (xs (i + 1)))) (fun r h1 n1 hq => ?_)
  obtain ⟨⟨⟨y, rfl⟩, ⟨fs1, g37⟩, hk⟩, g0⟩ := hq
  have f0 : h1 0 = .inl (0, L, xs) := g0.trans e0
  show AW _ _ 441 [some (.ref 0), some (.ref 1), some (.ref 37), some (.int (nI i))] [.int y] h1 n1 (cu + 0) (su + 0)
  refine r_aload_n 442 rfl 2 dL_law_441 rfl rfl ?_
  refine r_aload_n 443 rfl 0 dL_law_442 rfl rfl ?_
  refine r_iload_n 444 rfl 3 dL_law_443 rfl rfl ?_
  refine r_iconst 445 rfl 1 dL_law_444 rfl ?_
  refine r_iadd 446 rfl dL_law_445 ?_
  rw [show (nI i) + 1 = nI (i + 1) from nI_add i 1]
  refine r_iald (f := xs) 447 rfl (i + 1) dL_law_446 f0 rfl (by omega) (by omega) ?_
  refine r_callV 450 rfl [.int (xs (i + 1))] rfl dL_law_447 cl_L_law__X10_wind (lk_L_61 rfl) im_X10_wind (ci := 10) rfl sl_X10__X10_wind g37 (Nat.le_of_ble_eq_true rfl) (fun _ _ => Nat.le_of_ble_eq_true rfl) ⟨(show cu + 0 + 0 ≤ 600000 by omega), (show su + 0 + 0 ≤ 7302250 by omega)⟩ (AW.k0 (hk (fun r h n => r = some (.int y) ∧ ∃ z m D K, h = wd z m ∧ IV (i + 5) z m n D K) (fun z m n D K h => ⟨rfl, z, m, D, K, rfl, h⟩))) (fun r h2 n2 hq2 => ?_)
  obtain ⟨⟨rfl, z2, m2, D2, K2, rfl, hI2⟩, g2⟩ := hq2
  have hz2 : z2.1 = (L, xs) := (wd_z (g2.trans g0)).trans hz
  show AW _ _ 450 [some (.ref 0), some (.ref 1), some (.ref 37), some (.int (nI i))] [.int y, .int y] (wd z2 m2) n2 (cu + 0 + 0) (su + 0 + 0)
  refine r_icmp_eq 453 860 rfl dL_law_450 rfl (fun _ => ?_) (fun q__ => absurd rfl q__)
  exact kk z2 m2 n2 D2 K2 _ _ hz2 hI2 (show cu + 0 + 0 ≤ cu + 7 by omega) (show su + 0 + 0 ≤ su + 50 by omega)

set_option maxHeartbeats 4000000 in
set_option maxRecDepth 20000 in
theorem cs_frost {nm : String} {Q : am_P} {L : Nat} {xs : Nat → Int32} {z : am_Z} {m : Nat → Nat → Int32} {n cu su i : Nat} {D K : Nat → Nat → Nat} (hz : z.1 = (L, xs)) (hI : IV i z m n D K) (hi : i + 5 ≤ L) (hL : L ≤ 2560) (hcu : cu + 7 ≤ 600000) (hsu : su + 50 ≤ 7302250) (kk : ∀ z' m' n' D' K' cu' su', z'.1 = (L, xs) → IV (i + 5) z' m' n' D' K' → cu' ≤ cu + 7 → su' ≤ su + 50 → AW (mL_law nm) Q 860 [some (.ref 0), some (.ref 1), some (.ref 37), some (.int (nI i))] [] (wd z' m') n' cu' su') : AW (mL_law nm) Q 455 [some (.ref 0), some (.ref 1), some (.ref 37), some (.int (nI i))] [] (wd z m) n cu su := by
  have e0 : wd z m 0 = .inl (0, L, xs) := by show Sum.inl (0, z.1.1, z.1.2) = _; rw [hz]
  refine r_aload_n 456 rfl 1 dL_law_455 rfl rfl ?_
  refine r_aload_n 457 rfl 0 dL_law_456 rfl rfl ?_
  refine r_iload_n 458 rfl 3 dL_law_457 rfl rfl ?_
  refine r_iconst 459 rfl 1 dL_law_458 rfl ?_
  refine r_iadd 460 rfl dL_law_459 ?_
  rw [show (nI i) + 1 = nI (i + 1) from nI_add i 1]
  refine r_iald (f := xs) 461 rfl (i + 1) dL_law_460 e0 rfl (by omega) (by omega) ?_
  refine r_if_eq 464 468 rfl dL_law_461 rfl (fun cb => ?_) (fun cb => ?_)
  · refine r_iconst 469 rfl 0 dL_law_468 rfl ?_
    refine r_callV 472 rfl [.int 0] rfl dL_law_469 cl_L_law__X9_frost (lk_L_62 rfl) im_X9_frost (ci := 9) rfl sl_X9__X9_frost rfl (Nat.le_of_ble_eq_true rfl) (fun _ _ => Nat.le_of_ble_eq_true rfl) ⟨(show cu + 0 ≤ 600000 by omega), (show su + 0 ≤ 7302250 by omega)⟩ (AW.k0 (P_frost hI (by omega) (b := 0) (by decide))) (fun r h1 n1 hq => ?_)
    obtain ⟨⟨⟨y, rfl⟩, ⟨fs1, g37⟩, hk⟩, g0⟩ := hq
    have f0 : h1 0 = .inl (0, L, xs) := g0.trans e0
    show AW _ _ 472 [some (.ref 0), some (.ref 1), some (.ref 37), some (.int (nI i))] [.int y] h1 n1 (cu + 0) (su + 0)
    refine r_aload_n 473 rfl 2 dL_law_472 rfl rfl ?_
    refine r_aload_n 474 rfl 0 dL_law_473 rfl rfl ?_
    refine r_iload_n 475 rfl 3 dL_law_474 rfl rfl ?_
    refine r_iconst 476 rfl 1 dL_law_475 rfl ?_
    refine r_iadd 477 rfl dL_law_476 ?_
    rw [show (nI i) + 1 = nI (i + 1) from nI_add i 1]
    refine r_iald (f := xs) 478 rfl (i + 1) dL_law_477 f0 rfl (by omega) (by omega) ?_
    refine r_if_eq 481 485 rfl dL_law_478 rfl (fun _ => ?_) (fun q__ => absurd cb q__)
    refine r_iconst 486 rfl 0 dL_law_485 rfl ?_
    refine r_callV 489 rfl [.int 0] rfl dL_law_486 cl_L_law__X10_frost (lk_L_66 rfl) im_X10_frost (ci := 10) rfl sl_X10__X10_frost g37 (Nat.le_of_ble_eq_true rfl) (fun _ _ => Nat.le_of_ble_eq_true rfl) ⟨(show cu + 0 + 0 ≤ 600000 by omega), (show su + 0 + 0 ≤ 7302250 by omega)⟩ (AW.k0 (hk (fun r h n => r = some (.int y) ∧ ∃ z m D K, h = wd z m ∧ IV (i + 5) z m n D K) (fun z m n D K h => ⟨rfl, z, m, D, K, rfl, h⟩))) (fun r h2 n2 hq2 => ?_)
    obtain ⟨⟨rfl, z2, m2, D2, K2, rfl, hI2⟩, g2⟩ := hq2
    have hz2 : z2.1 = (L, xs) := (wd_z (g2.trans g0)).trans hz
    show AW _ _ 489 [some (.ref 0), some (.ref 1), some (.ref 37), some (.int (nI i))] [.int y, .int y] (wd z2 m2) n2 (cu + 0 + 0) (su + 0 + 0)
    refine r_icmp_eq 492 860 rfl dL_law_489 rfl (fun _ => ?_) (fun q__ => absurd rfl q__)
    exact kk z2 m2 n2 D2 K2 _ _ hz2 hI2 (show cu + 0 + 0 ≤ cu + 7 by omega) (show su + 0 + 0 ≤ su + 50 by omega)
  · refine r_iconst 465 rfl 1 dL_law_464 rfl ?_
    refine r_goto 469 dL_law_465 rfl ?_
    refine r_callV 472 rfl [.int 1] rfl dL_law_469 cl_L_law__X9_frost (lk_L_62 rfl) im_X9_frost (ci := 9) rfl sl_X9__X9_frost rfl (Nat.le_of_ble_eq_true rfl) (fun _ _ => Nat.le_of_ble_eq_true rfl) ⟨(show cu + 0 ≤ 600000 by omega), (show su + 0 ≤ 7302250 by omega)⟩ (AW.k0 (P_frost hI (by omega) (b := 1) (by decide))) (fun r h1 n1 hq => ?_)
    obtain ⟨⟨⟨y, rfl⟩, ⟨fs1, g37⟩, hk⟩, g0⟩ := hq
    have f0 : h1 0 = .inl (0, L, xs) := g0.trans e0
    show AW _ _ 472 [some (.ref 0), some (.ref 1), some (.ref 37), some (.int (nI i))] [.int y] h1 n1 (cu + 0) (su + 0)
    refine r_aload_n 473 rfl 2 dL_law_472 rfl rfl ?_
    refine r_aload_n 474 rfl 0 dL_law_473 rfl rfl ?_
    refine r_iload_n 475 rfl 3 dL_law_474 rfl rfl ?_
    refine r_iconst 476 rfl 1 dL_law_475 rfl ?_
    refine r_iadd 477 rfl dL_law_476 ?_
    rw [show (nI i) + 1 = nI (i + 1) from nI_add i 1]
    refine r_iald (f := xs) 478 rfl (i + 1) dL_law_477 f0 rfl (by omega) (by omega) ?_
    refine r_if_eq 481 485 rfl dL_law_478 rfl (fun q__ => absurd q__ cb) (fun _ => ?_)
    refine r_iconst 482 rfl 1 dL_law_481 rfl ?_
    refine r_goto 486 dL_law_482 rfl ?_
    refine r_callV 489 rfl [.int 1] rfl dL_law_486 cl_L_law__X10_frost (lk_L_66 rfl) im_X10_frost (ci := 10) rfl sl_X10__X10_frost g37 (Nat.le_of_ble_eq_true rfl) (fun _ _ => Nat.le_of_ble_eq_true rfl) ⟨(show cu + 0 + 0 ≤ 600000 by omega), (show su + 0 + 0 ≤ 7302250 by omega)⟩ (AW.k0 (hk (fun r h n => r = some (.int y) ∧ ∃ z m D K, h = wd z m ∧ IV (i + 5) z m n D K) (fun z m n D K h => ⟨rfl, z, m, D, K, rfl, h⟩))) (fun r h2 n2 hq2 => ?_)
    obtain ⟨⟨rfl, z2, m2, D2, K2, rfl, hI2⟩, g2⟩ := hq2
    have hz2 : z2.1 = (L, xs) := (wd_z (g2.trans g0)).trans hz
    show AW _ _ 489 [some (.ref 0), some (.ref 1), some (.ref 37), some (.int (nI i))] [.int y, .int y] (wd z2 m2) n2 (cu + 0 + 0) (su + 0 + 0)
    refine r_icmp_eq 492 860 rfl dL_law_489 rfl (fun _ => ?_) (fun q__ => absurd rfl q__)
    exact kk z2 m2 n2 D2 K2 _ _ hz2 hI2 (show cu + 0 + 0 ≤ cu + 7 by omega) (show su + 0 + 0 ≤ su + 50 by omega)

set_option maxHeartbeats 4000000 in
set_option maxRecDepth 20000 in
theorem cs_people {nm : String} {Q : am_P} {L : Nat} {xs : Nat → Int32} {z : am_Z} {m : Nat → Nat → Int32} {n cu su i : Nat} {D K : Nat → Nat → Nat} (hz : z.1 = (L, xs)) (hI : IV i z m n D K) (hi : i + 5 ≤ L) (hL : L ≤ 2560) (hcu : cu + 7 ≤ 600000) (hsu : su + 50 ≤ 7302250) (kk : ∀ z' m' n' D' K' cu' su', z'.1 = (L, xs) → IV (i + 5) z' m' n' D' K' → cu' ≤ cu + 7 → su' ≤ su + 50 → AW (mL_law nm) Q 860 [some (.ref 0), some (.ref 1), some (.ref 37), some (.int (nI i))] [] (wd z' m') n' cu' su') : AW (mL_law nm) Q 494 [some (.ref 0), some (.ref 1), some (.ref 37), some (.int (nI i))] [] (wd z m) n cu su := by
  have e0 : wd z m 0 = .inl (0, L, xs) := by show Sum.inl (0, z.1.1, z.1.2) = _; rw [hz]
  refine r_aload_n 495 rfl 1 dL_law_494 rfl rfl ?_
  refine r_aload_n 496 rfl 0 dL_law_495 rfl rfl ?_
  refine r_iload_n 497 rfl 3 dL_law_496 rfl rfl ?_
  refine r_iconst 498 rfl 1 dL_law_497 rfl ?_
  refine r_iadd 499 rfl dL_law_498 ?_
  rw [show (nI i) + 1 = nI (i + 1) from nI_add i 1]
  refine r_iald (f := xs) 500 rfl (i + 1) dL_law_499 e0 rfl (by omega) (by omega) ?_
  refine r_aload_n 501 rfl 0 dL_law_500 rfl rfl ?_
  refine r_iload_n 502 rfl 3 dL_law_501 rfl rfl ?_
  refine r_iconst 503 rfl 2 dL_law_502 rfl ?_
  refine r_iadd 504 rfl dL_law_503 ?_
  rw [show (nI i) + 2 = nI (i + 2) from nI_add i 2]
  refine r_iald (f := xs) 505 rfl (i + 2) dL_law_504 e0 rfl (by omega) (by omega) ?_
  refine r_callV 508 rfl [.int (xs (i + 1)), .int (xs (i + 2))] rfl dL_law_505 cl_L_law__X9_people (lk_L_67 rfl) im_X9_people (ci := 9) rfl sl_X9__X9_people rfl (Nat.le_of_ble_eq_true rfl) (fun _ _ => Nat.le_of_ble_eq_true rfl) ⟨(show cu + 0 ≤ 600000 by omega), (show su + 0 ≤ 7302250 by omega)⟩ (AW.k0 (P_people hI (by omega) (xs (i + 1)) (xs (i + 2)))) (fun r h1 n1 hq => ?_)
  obtain ⟨⟨⟨y, rfl⟩, ⟨fs1, g37⟩, hk⟩, g0⟩ := hq
  have f0 : h1 0 = .inl (0, L, xs) := g0.trans e0
  show AW _ _ 508 [some (.ref 0), some (.ref 1), some (.ref 37), some (.int (nI i))] [.int y] h1 n1 (cu + 0) (su + 0)
  refine r_aload_n 509 rfl 2 dL_law_508 rfl rfl ?_
  refine r_aload_n 510 rfl 0 dL_law_509 rfl rfl ?_
  refine r_iload_n 511 rfl 3 dL_law_510 rfl rfl ?_
  refine r_iconst 512 rfl 1 dL_law_511 rfl ?_
  refine r_iadd 513 rfl dL_law_512 ?_
  rw [show (nI i) + 1 = nI (i + 1) from nI_add i 1]
  refine r_iald (f := xs) 514 rfl (i + 1) dL_law_513 f0 rfl (by omega) (by omega) ?_
  refine r_aload_n 515 rfl 0 dL_law_514 rfl rfl ?_
  refine r_iload_n 516 rfl 3 dL_law_515 rfl rfl ?_
  refine r_iconst 517 rfl 2 dL_law_516 rfl ?_
  refine r_iadd 518 rfl dL_law_517 ?_
  rw [show (nI i) + 2 = nI (i + 2) from nI_add i 2]
  refine r_iald (f := xs) 519 rfl (i + 2) dL_law_518 f0 rfl (by omega) (by omega) ?_
  refine r_callV 522 rfl [.int (xs (i + 1)), .int (xs (i + 2))] rfl dL_law_519 cl_L_law__X10_people (lk_L_70 rfl) im_X10_people (ci := 10) rfl sl_X10__X10_people g37 (Nat.le_of_ble_eq_true rfl) (fun _ _ => Nat.le_of_ble_eq_true rfl) ⟨(show cu + 0 + 0 ≤ 600000 by omega), (show su + 0 + 0 ≤ 7302250 by omega)⟩ (AW.k0 (hk (fun r h n => r = some (.int y) ∧ ∃ z m D K, h = wd z m ∧ IV (i + 5) z m n D K) (fun z m n D K h => ⟨rfl, z, m, D, K, rfl, h⟩))) (fun r h2 n2 hq2 => ?_)
  obtain ⟨⟨rfl, z2, m2, D2, K2, rfl, hI2⟩, g2⟩ := hq2
  have hz2 : z2.1 = (L, xs) := (wd_z (g2.trans g0)).trans hz
  show AW _ _ 522 [some (.ref 0), some (.ref 1), some (.ref 37), some (.int (nI i))] [.int y, .int y] (wd z2 m2) n2 (cu + 0 + 0) (su + 0 + 0)
  refine r_icmp_eq 525 860 rfl dL_law_522 rfl (fun _ => ?_) (fun q__ => absurd rfl q__)
  exact kk z2 m2 n2 D2 K2 _ _ hz2 hI2 (show cu + 0 + 0 ≤ cu + 7 by omega) (show su + 0 + 0 ≤ su + 50 by omega)

set_option maxHeartbeats 4000000 in
set_option maxRecDepth 20000 in
theorem cs_dusk {nm : String} {Q : am_P} {L : Nat} {xs : Nat → Int32} {z : am_Z} {m : Nat → Nat → Int32} {n cu su i : Nat} {D K : Nat → Nat → Nat} (hz : z.1 = (L, xs)) (hI : IV i z m n D K) (hi : i + 5 ≤ L) (hL : L ≤ 2560) (hcu : cu + 7 ≤ 600000) (hsu : su + 50 ≤ 7302250) (kk : ∀ z' m' n' D' K' cu' su', z'.1 = (L, xs) → IV (i + 5) z' m' n' D' K' → cu' ≤ cu + 7 → su' ≤ su + 50 → AW (mL_law nm) Q 860 [some (.ref 0), some (.ref 1), some (.ref 37), some (.int (nI i))] [] (wd z' m') n' cu' su') : AW (mL_law nm) Q 527 [some (.ref 0), some (.ref 1), some (.ref 37), some (.int (nI i))] [] (wd z m) n cu su := by
  have e0 : wd z m 0 = .inl (0, L, xs) := by show Sum.inl (0, z.1.1, z.1.2) = _; rw [hz]
  refine r_aload_n 528 rfl 1 dL_law_527 rfl rfl ?_
  refine r_callV 531 rfl [] rfl dL_law_528 cl_L_law__X9_dusk (lk_L_71 rfl) im_X9_dusk (ci := 9) rfl sl_X9__X9_dusk rfl (Nat.le_of_ble_eq_true rfl) (fun _ _ => Nat.le_of_ble_eq_true rfl) ⟨(show cu + 0 ≤ 600000 by omega), (show su + 0 ≤ 7302250 by omega)⟩ (AW.k0 (P_dusk hI (by omega) )) (fun r h1 n1 hq => ?_)
  obtain ⟨⟨⟨y, rfl⟩, ⟨fs1, g37⟩, hk⟩, g0⟩ := hq
  have f0 : h1 0 = .inl (0, L, xs) := g0.trans e0
  show AW _ _ 531 [some (.ref 0), some (.ref 1), some (.ref 37), some (.int (nI i))] [.int y] h1 n1 (cu + 0) (su + 0)
  refine r_aload_n 532 rfl 2 dL_law_531 rfl rfl ?_
  refine r_callV 535 rfl [] rfl dL_law_532 cl_L_law__X10_dusk (lk_L_74 rfl) im_X10_dusk (ci := 10) rfl sl_X10__X10_dusk g37 (Nat.le_of_ble_eq_true rfl) (fun _ _ => Nat.le_of_ble_eq_true rfl) ⟨(show cu + 0 + 0 ≤ 600000 by omega), (show su + 0 + 0 ≤ 7302250 by omega)⟩ (AW.k0 (hk (fun r h n => r = some (.int y) ∧ ∃ z m D K, h = wd z m ∧ IV (i + 5) z m n D K) (fun z m n D K h => ⟨rfl, z, m, D, K, rfl, h⟩))) (fun r h2 n2 hq2 => ?_)
  obtain ⟨⟨rfl, z2, m2, D2, K2, rfl, hI2⟩, g2⟩ := hq2
  have hz2 : z2.1 = (L, xs) := (wd_z (g2.trans g0)).trans hz
  show AW _ _ 535 [some (.ref 0), some (.ref 1), some (.ref 37), some (.int (nI i))] [.int y, .int y] (wd z2 m2) n2 (cu + 0 + 0) (su + 0 + 0)
  refine r_icmp_eq 538 860 rfl dL_law_535 rfl (fun _ => ?_) (fun q__ => absurd rfl q__)
  exact kk z2 m2 n2 D2 K2 _ _ hz2 hI2 (show cu + 0 + 0 ≤ cu + 7 by omega) (show su + 0 + 0 ≤ su + 50 by omega)

set_option maxHeartbeats 4000000 in
set_option maxRecDepth 20000 in
theorem cs_hour {nm : String} {Q : am_P} {L : Nat} {xs : Nat → Int32} {z : am_Z} {m : Nat → Nat → Int32} {n cu su i : Nat} {D K : Nat → Nat → Nat} (hz : z.1 = (L, xs)) (hI : IV i z m n D K) (hi : i + 5 ≤ L) (hL : L ≤ 2560) (hcu : cu + 7 ≤ 600000) (hsu : su + 50 ≤ 7302250) (kk : ∀ z' m' n' D' K' cu' su', z'.1 = (L, xs) → IV (i + 5) z' m' n' D' K' → cu' ≤ cu + 7 → su' ≤ su + 50 → AW (mL_law nm) Q 860 [some (.ref 0), some (.ref 1), some (.ref 37), some (.int (nI i))] [] (wd z' m') n' cu' su') : AW (mL_law nm) Q 540 [some (.ref 0), some (.ref 1), some (.ref 37), some (.int (nI i))] [] (wd z m) n cu su := by
  have e0 : wd z m 0 = .inl (0, L, xs) := by show Sum.inl (0, z.1.1, z.1.2) = _; rw [hz]
  refine r_aload_n 541 rfl 1 dL_law_540 rfl rfl ?_
  refine r_callV 544 rfl [] rfl dL_law_541 cl_L_law__X9_hour (lk_L_75 rfl) im_X9_hour (ci := 9) rfl sl_X9__X9_hour rfl (Nat.le_of_ble_eq_true rfl) (fun _ _ => Nat.le_of_ble_eq_true rfl) ⟨(show cu + 0 ≤ 600000 by omega), (show su + 0 ≤ 7302250 by omega)⟩ (AW.k0 (P_hour hI (by omega) )) (fun r h1 n1 hq => ?_)
  obtain ⟨⟨⟨y, rfl⟩, ⟨fs1, g37⟩, hk⟩, g0⟩ := hq
  have f0 : h1 0 = .inl (0, L, xs) := g0.trans e0
  show AW _ _ 544 [some (.ref 0), some (.ref 1), some (.ref 37), some (.int (nI i))] [.int y] h1 n1 (cu + 0) (su + 0)
  refine r_aload_n 545 rfl 2 dL_law_544 rfl rfl ?_
  refine r_callV 548 rfl [] rfl dL_law_545 cl_L_law__X10_hour (lk_L_78 rfl) im_X10_hour (ci := 10) rfl sl_X10__X10_hour g37 (Nat.le_of_ble_eq_true rfl) (fun _ _ => Nat.le_of_ble_eq_true rfl) ⟨(show cu + 0 + 0 ≤ 600000 by omega), (show su + 0 + 0 ≤ 7302250 by omega)⟩ (AW.k0 (hk (fun r h n => r = some (.int y) ∧ ∃ z m D K, h = wd z m ∧ IV (i + 5) z m n D K) (fun z m n D K h => ⟨rfl, z, m, D, K, rfl, h⟩))) (fun r h2 n2 hq2 => ?_)
  obtain ⟨⟨rfl, z2, m2, D2, K2, rfl, hI2⟩, g2⟩ := hq2
  have hz2 : z2.1 = (L, xs) := (wd_z (g2.trans g0)).trans hz
  show AW _ _ 548 [some (.ref 0), some (.ref 1), some (.ref 37), some (.int (nI i))] [.int y, .int y] (wd z2 m2) n2 (cu + 0 + 0) (su + 0 + 0)
  refine r_icmp_eq 551 860 rfl dL_law_548 rfl (fun _ => ?_) (fun q__ => absurd rfl q__)
  exact kk z2 m2 n2 D2 K2 _ _ hz2 hI2 (show cu + 0 + 0 ≤ cu + 7 by omega) (show su + 0 + 0 ≤ su + 50 by omega)

set_option maxHeartbeats 4000000 in
set_option maxRecDepth 20000 in
theorem cs_weakest {nm : String} {Q : am_P} {L : Nat} {xs : Nat → Int32} {z : am_Z} {m : Nat → Nat → Int32} {n cu su i : Nat} {D K : Nat → Nat → Nat} (hz : z.1 = (L, xs)) (hI : IV i z m n D K) (hi : i + 5 ≤ L) (hL : L ≤ 2560) (hcu : cu + 7 ≤ 600000) (hsu : su + 50 ≤ 7302250) (kk : ∀ z' m' n' D' K' cu' su', z'.1 = (L, xs) → IV (i + 5) z' m' n' D' K' → cu' ≤ cu + 7 → su' ≤ su + 50 → AW (mL_law nm) Q 860 [some (.ref 0), some (.ref 1), some (.ref 37), some (.int (nI i))] [] (wd z' m') n' cu' su') : AW (mL_law nm) Q 553 [some (.ref 0), some (.ref 1), some (.ref 37), some (.int (nI i))] [] (wd z m) n cu su := by
  have e0 : wd z m 0 = .inl (0, L, xs) := by show Sum.inl (0, z.1.1, z.1.2) = _; rw [hz]
  refine r_aload_n 554 rfl 1 dL_law_553 rfl rfl ?_
  refine r_aload_n 555 rfl 0 dL_law_554 rfl rfl ?_
  refine r_iload_n 556 rfl 3 dL_law_555 rfl rfl ?_
  refine r_iconst 557 rfl 1 dL_law_556 rfl ?_
  refine r_iadd 558 rfl dL_law_557 ?_
  rw [show (nI i) + 1 = nI (i + 1) from nI_add i 1]
  refine r_iald (f := xs) 559 rfl (i + 1) dL_law_558 e0 rfl (by omega) (by omega) ?_
  refine r_aload_n 560 rfl 0 dL_law_559 rfl rfl ?_
  refine r_iload_n 561 rfl 3 dL_law_560 rfl rfl ?_
  refine r_iconst 562 rfl 2 dL_law_561 rfl ?_
  refine r_iadd 563 rfl dL_law_562 ?_
  rw [show (nI i) + 2 = nI (i + 2) from nI_add i 2]
  refine r_iald (f := xs) 564 rfl (i + 2) dL_law_563 e0 rfl (by omega) (by omega) ?_
  refine r_aload_n 565 rfl 0 dL_law_564 rfl rfl ?_
  refine r_iload_n 566 rfl 3 dL_law_565 rfl rfl ?_
  refine r_iconst 567 rfl 3 dL_law_566 rfl ?_
  refine r_iadd 568 rfl dL_law_567 ?_
  rw [show (nI i) + 3 = nI (i + 3) from nI_add i 3]
  refine r_iald (f := xs) 569 rfl (i + 3) dL_law_568 e0 rfl (by omega) (by omega) ?_
  refine r_callV 572 rfl [.int (xs (i + 1)), .int (xs (i + 2)), .int (xs (i + 3))] rfl dL_law_569 cl_L_law__X9_weakest (lk_L_79 rfl) im_X9_weakest (ci := 9) rfl sl_X9__X9_weakest rfl (Nat.le_of_ble_eq_true rfl) (fun _ _ => Nat.le_of_ble_eq_true rfl) ⟨(show cu + 0 ≤ 600000 by omega), (show su + 0 ≤ 7302250 by omega)⟩ (AW.k0 (P_weakest hI (by omega) (xs (i + 1)) (xs (i + 2)) (xs (i + 3)))) (fun r h1 n1 hq => ?_)
  obtain ⟨⟨⟨y, rfl⟩, ⟨fs1, g37⟩, hk⟩, g0⟩ := hq
  have f0 : h1 0 = .inl (0, L, xs) := g0.trans e0
  show AW _ _ 572 [some (.ref 0), some (.ref 1), some (.ref 37), some (.int (nI i))] [.int y] h1 n1 (cu + 0) (su + 0)
  refine r_aload_n 573 rfl 2 dL_law_572 rfl rfl ?_
  refine r_aload_n 574 rfl 0 dL_law_573 rfl rfl ?_
  refine r_iload_n 575 rfl 3 dL_law_574 rfl rfl ?_
  refine r_iconst 576 rfl 1 dL_law_575 rfl ?_
  refine r_iadd 577 rfl dL_law_576 ?_
  rw [show (nI i) + 1 = nI (i + 1) from nI_add i 1]
  refine r_iald (f := xs) 578 rfl (i + 1) dL_law_577 f0 rfl (by omega) (by omega) ?_
  refine r_aload_n 579 rfl 0 dL_law_578 rfl rfl ?_
  refine r_iload_n 580 rfl 3 dL_law_579 rfl rfl ?_
  refine r_iconst 581 rfl 2 dL_law_580 rfl ?_
  refine r_iadd 582 rfl dL_law_581 ?_
  rw [show (nI i) + 2 = nI (i + 2) from nI_add i 2]
  refine r_iald (f := xs) 583 rfl (i + 2) dL_law_582 f0 rfl (by omega) (by omega) ?_
  refine r_aload_n 584 rfl 0 dL_law_583 rfl rfl ?_
  refine r_iload_n 585 rfl 3 dL_law_584 rfl rfl ?_
  refine r_iconst 586 rfl 3 dL_law_585 rfl ?_
  refine r_iadd 587 rfl dL_law_586 ?_
  rw [show (nI i) + 3 = nI (i + 3) from nI_add i 3]
  refine r_iald (f := xs) 588 rfl (i + 3) dL_law_587 f0 rfl (by omega) (by omega) ?_
  refine r_callV 591 rfl [.int (xs (i + 1)), .int (xs (i + 2)), .int (xs (i + 3))] rfl dL_law_588 cl_L_law__X10_weakest (lk_L_83 rfl) im_X10_weakest (ci := 10) rfl sl_X10__X10_weakest g37 (Nat.le_of_ble_eq_true rfl) (fun _ _ => Nat.le_of_ble_eq_true rfl) ⟨(show cu + 0 + 0 ≤ 600000 by omega), (show su + 0 + 0 ≤ 7302250 by omega)⟩ (AW.k0 (hk (fun r h n => r = some (.int y) ∧ ∃ z m D K, h = wd z m ∧ IV (i + 5) z m n D K) (fun z m n D K h => ⟨rfl, z, m, D, K, rfl, h⟩))) (fun r h2 n2 hq2 => ?_)
  obtain ⟨⟨rfl, z2, m2, D2, K2, rfl, hI2⟩, g2⟩ := hq2
  have hz2 : z2.1 = (L, xs) := (wd_z (g2.trans g0)).trans hz
  show AW _ _ 591 [some (.ref 0), some (.ref 1), some (.ref 37), some (.int (nI i))] [.int y, .int y] (wd z2 m2) n2 (cu + 0 + 0) (su + 0 + 0)
  refine r_icmp_eq 594 860 rfl dL_law_591 rfl (fun _ => ?_) (fun q__ => absurd rfl q__)
  exact kk z2 m2 n2 D2 K2 _ _ hz2 hI2 (show cu + 0 + 0 ≤ cu + 7 by omega) (show su + 0 + 0 ≤ su + 50 by omega)

set_option maxHeartbeats 4000000 in
set_option maxRecDepth 20000 in
theorem cs_walls {nm : String} {Q : am_P} {L : Nat} {xs : Nat → Int32} {z : am_Z} {m : Nat → Nat → Int32} {n cu su i : Nat} {D K : Nat → Nat → Nat} (hz : z.1 = (L, xs)) (hI : IV i z m n D K) (hi : i + 5 ≤ L) (hL : L ≤ 2560) (hcu : cu + 7 ≤ 600000) (hsu : su + 50 ≤ 7302250) (kk : ∀ z' m' n' D' K' cu' su', z'.1 = (L, xs) → IV (i + 5) z' m' n' D' K' → cu' ≤ cu + 7 → su' ≤ su + 50 → AW (mL_law nm) Q 860 [some (.ref 0), some (.ref 1), some (.ref 37), some (.int (nI i))] [] (wd z' m') n' cu' su') : AW (mL_law nm) Q 596 [some (.ref 0), some (.ref 1), some (.ref 37), some (.int (nI i))] [] (wd z m) n cu su := by
  have e0 : wd z m 0 = .inl (0, L, xs) := by show Sum.inl (0, z.1.1, z.1.2) = _; rw [hz]
  refine r_aload_n 597 rfl 1 dL_law_596 rfl rfl ?_
  refine r_aload_n 598 rfl 0 dL_law_597 rfl rfl ?_
  refine r_iload_n 599 rfl 3 dL_law_598 rfl rfl ?_
  refine r_iconst 600 rfl 1 dL_law_599 rfl ?_
  refine r_iadd 601 rfl dL_law_600 ?_
  rw [show (nI i) + 1 = nI (i + 1) from nI_add i 1]
  refine r_iald (f := xs) 602 rfl (i + 1) dL_law_601 e0 rfl (by omega) (by omega) ?_
  refine r_aload_n 603 rfl 0 dL_law_602 rfl rfl ?_
  refine r_iload_n 604 rfl 3 dL_law_603 rfl rfl ?_
  refine r_iconst 605 rfl 2 dL_law_604 rfl ?_
  refine r_iadd 606 rfl dL_law_605 ?_
  rw [show (nI i) + 2 = nI (i + 2) from nI_add i 2]
  refine r_iald (f := xs) 607 rfl (i + 2) dL_law_606 e0 rfl (by omega) (by omega) ?_
  refine r_aload_n 608 rfl 0 dL_law_607 rfl rfl ?_
  refine r_iload_n 609 rfl 3 dL_law_608 rfl rfl ?_
  refine r_iconst 610 rfl 3 dL_law_609 rfl ?_
  refine r_iadd 611 rfl dL_law_610 ?_
  rw [show (nI i) + 3 = nI (i + 3) from nI_add i 3]
  refine r_iald (f := xs) 612 rfl (i + 3) dL_law_611 e0 rfl (by omega) (by omega) ?_
  refine r_callV 615 rfl [.int (xs (i + 1)), .int (xs (i + 2)), .int (xs (i + 3))] rfl dL_law_612 cl_L_law__X9_walls (lk_L_84 rfl) im_X9_walls (ci := 9) rfl sl_X9__X9_walls rfl (Nat.le_of_ble_eq_true rfl) (fun _ _ => Nat.le_of_ble_eq_true rfl) ⟨(show cu + 0 ≤ 600000 by omega), (show su + 0 ≤ 7302250 by omega)⟩ (AW.k0 (P_walls hI (by omega) (xs (i + 1)) (xs (i + 2)) (xs (i + 3)))) (fun r h1 n1 hq => ?_)
  obtain ⟨⟨⟨y, rfl⟩, ⟨fs1, g37⟩, hk⟩, g0⟩ := hq
  have f0 : h1 0 = .inl (0, L, xs) := g0.trans e0
  show AW _ _ 615 [some (.ref 0), some (.ref 1), some (.ref 37), some (.int (nI i))] [.int y] h1 n1 (cu + 0) (su + 0)
  refine r_aload_n 616 rfl 2 dL_law_615 rfl rfl ?_
  refine r_aload_n 617 rfl 0 dL_law_616 rfl rfl ?_
  refine r_iload_n 618 rfl 3 dL_law_617 rfl rfl ?_
  refine r_iconst 619 rfl 1 dL_law_618 rfl ?_
  refine r_iadd 620 rfl dL_law_619 ?_
  rw [show (nI i) + 1 = nI (i + 1) from nI_add i 1]
  refine r_iald (f := xs) 621 rfl (i + 1) dL_law_620 f0 rfl (by omega) (by omega) ?_
  refine r_aload_n 622 rfl 0 dL_law_621 rfl rfl ?_
  refine r_iload_n 623 rfl 3 dL_law_622 rfl rfl ?_
  refine r_iconst 624 rfl 2 dL_law_623 rfl ?_
  refine r_iadd 625 rfl dL_law_624 ?_
  rw [show (nI i) + 2 = nI (i + 2) from nI_add i 2]
  refine r_iald (f := xs) 626 rfl (i + 2) dL_law_625 f0 rfl (by omega) (by omega) ?_
  refine r_aload_n 627 rfl 0 dL_law_626 rfl rfl ?_
  refine r_iload_n 628 rfl 3 dL_law_627 rfl rfl ?_
  refine r_iconst 629 rfl 3 dL_law_628 rfl ?_
  refine r_iadd 630 rfl dL_law_629 ?_
  rw [show (nI i) + 3 = nI (i + 3) from nI_add i 3]
  refine r_iald (f := xs) 631 rfl (i + 3) dL_law_630 f0 rfl (by omega) (by omega) ?_
  refine r_callV 634 rfl [.int (xs (i + 1)), .int (xs (i + 2)), .int (xs (i + 3))] rfl dL_law_631 cl_L_law__X10_walls (lk_L_87 rfl) im_X10_walls (ci := 10) rfl sl_X10__X10_walls g37 (Nat.le_of_ble_eq_true rfl) (fun _ _ => Nat.le_of_ble_eq_true rfl) ⟨(show cu + 0 + 0 ≤ 600000 by omega), (show su + 0 + 0 ≤ 7302250 by omega)⟩ (AW.k0 (hk (fun r h n => r = some (.int y) ∧ ∃ z m D K, h = wd z m ∧ IV (i + 5) z m n D K) (fun z m n D K h => ⟨rfl, z, m, D, K, rfl, h⟩))) (fun r h2 n2 hq2 => ?_)
  obtain ⟨⟨rfl, z2, m2, D2, K2, rfl, hI2⟩, g2⟩ := hq2
  have hz2 : z2.1 = (L, xs) := (wd_z (g2.trans g0)).trans hz
  show AW _ _ 634 [some (.ref 0), some (.ref 1), some (.ref 37), some (.int (nI i))] [.int y, .int y] (wd z2 m2) n2 (cu + 0 + 0) (su + 0 + 0)
  refine r_icmp_eq 637 860 rfl dL_law_634 rfl (fun _ => ?_) (fun q__ => absurd rfl q__)
  exact kk z2 m2 n2 D2 K2 _ _ hz2 hI2 (show cu + 0 + 0 ≤ cu + 7 by omega) (show su + 0 + 0 ≤ su + 50 by omega)

set_option maxHeartbeats 4000000 in
set_option maxRecDepth 20000 in
theorem cs_hold {nm : String} {Q : am_P} {L : Nat} {xs : Nat → Int32} {z : am_Z} {m : Nat → Nat → Int32} {n cu su i : Nat} {D K : Nat → Nat → Nat} (hz : z.1 = (L, xs)) (hI : IV i z m n D K) (hi : i + 5 ≤ L) (hL : L ≤ 2560) (hcu : cu + 7 ≤ 600000) (hsu : su + 50 ≤ 7302250) (kk : ∀ z' m' n' D' K' cu' su', z'.1 = (L, xs) → IV (i + 5) z' m' n' D' K' → cu' ≤ cu + 7 → su' ≤ su + 50 → AW (mL_law nm) Q 860 [some (.ref 0), some (.ref 1), some (.ref 37), some (.int (nI i))] [] (wd z' m') n' cu' su') : AW (mL_law nm) Q 639 [some (.ref 0), some (.ref 1), some (.ref 37), some (.int (nI i))] [] (wd z m) n cu su := by
  have e0 : wd z m 0 = .inl (0, L, xs) := by show Sum.inl (0, z.1.1, z.1.2) = _; rw [hz]
  refine r_aload_n 640 rfl 1 dL_law_639 rfl rfl ?_
  refine r_aload_n 641 rfl 0 dL_law_640 rfl rfl ?_
  refine r_iload_n 642 rfl 3 dL_law_641 rfl rfl ?_
  refine r_iconst 643 rfl 1 dL_law_642 rfl ?_
  refine r_iadd 644 rfl dL_law_643 ?_
  rw [show (nI i) + 1 = nI (i + 1) from nI_add i 1]
  refine r_iald (f := xs) 645 rfl (i + 1) dL_law_644 e0 rfl (by omega) (by omega) ?_
  refine r_aload_n 646 rfl 0 dL_law_645 rfl rfl ?_
  refine r_iload_n 647 rfl 3 dL_law_646 rfl rfl ?_
  refine r_iconst 648 rfl 2 dL_law_647 rfl ?_
  refine r_iadd 649 rfl dL_law_648 ?_
  rw [show (nI i) + 2 = nI (i + 2) from nI_add i 2]
  refine r_iald (f := xs) 650 rfl (i + 2) dL_law_649 e0 rfl (by omega) (by omega) ?_
  refine r_callV 653 rfl [.int (xs (i + 1)), .int (xs (i + 2))] rfl dL_law_650 cl_L_law__X9_hold (lk_L_88 rfl) im_X9_hold (ci := 9) rfl sl_X9__X9_hold rfl (Nat.le_of_ble_eq_true rfl) (fun _ _ => Nat.le_of_ble_eq_true rfl) ⟨(show cu + 0 ≤ 600000 by omega), (show su + 0 ≤ 7302250 by omega)⟩ (AW.k0 (P_hold hI (by omega) (xs (i + 1)) (xs (i + 2)))) (fun r h1 n1 hq => ?_)
  obtain ⟨⟨⟨y, rfl⟩, ⟨fs1, g37⟩, hk⟩, g0⟩ := hq
  have f0 : h1 0 = .inl (0, L, xs) := g0.trans e0
  show AW _ _ 653 [some (.ref 0), some (.ref 1), some (.ref 37), some (.int (nI i))] [.int y] h1 n1 (cu + 0) (su + 0)
  refine r_aload_n 654 rfl 2 dL_law_653 rfl rfl ?_
  refine r_aload_n 655 rfl 0 dL_law_654 rfl rfl ?_
  refine r_iload_n 656 rfl 3 dL_law_655 rfl rfl ?_
  refine r_iconst 657 rfl 1 dL_law_656 rfl ?_
  refine r_iadd 658 rfl dL_law_657 ?_
  rw [show (nI i) + 1 = nI (i + 1) from nI_add i 1]
  refine r_iald (f := xs) 659 rfl (i + 1) dL_law_658 f0 rfl (by omega) (by omega) ?_
  refine r_aload_n 660 rfl 0 dL_law_659 rfl rfl ?_
  refine r_iload_n 661 rfl 3 dL_law_660 rfl rfl ?_
  refine r_iconst 662 rfl 2 dL_law_661 rfl ?_
  refine r_iadd 663 rfl dL_law_662 ?_
  rw [show (nI i) + 2 = nI (i + 2) from nI_add i 2]
  refine r_iald (f := xs) 664 rfl (i + 2) dL_law_663 f0 rfl (by omega) (by omega) ?_
  refine r_callV 667 rfl [.int (xs (i + 1)), .int (xs (i + 2))] rfl dL_law_664 cl_L_law__X10_hold (lk_L_91 rfl) im_X10_hold (ci := 10) rfl sl_X10__X10_hold g37 (Nat.le_of_ble_eq_true rfl) (fun _ _ => Nat.le_of_ble_eq_true rfl) ⟨(show cu + 0 + 0 ≤ 600000 by omega), (show su + 0 + 0 ≤ 7302250 by omega)⟩ (AW.k0 (hk (fun r h n => r = some (.int y) ∧ ∃ z m D K, h = wd z m ∧ IV (i + 5) z m n D K) (fun z m n D K h => ⟨rfl, z, m, D, K, rfl, h⟩))) (fun r h2 n2 hq2 => ?_)
  obtain ⟨⟨rfl, z2, m2, D2, K2, rfl, hI2⟩, g2⟩ := hq2
  have hz2 : z2.1 = (L, xs) := (wd_z (g2.trans g0)).trans hz
  show AW _ _ 667 [some (.ref 0), some (.ref 1), some (.ref 37), some (.int (nI i))] [.int y, .int y] (wd z2 m2) n2 (cu + 0 + 0) (su + 0 + 0)
  refine r_icmp_eq 670 860 rfl dL_law_667 rfl (fun _ => ?_) (fun q__ => absurd rfl q__)
  exact kk z2 m2 n2 D2 K2 _ _ hz2 hI2 (show cu + 0 + 0 ≤ cu + 7 by omega) (show su + 0 + 0 ≤ su + 50 by omega)

set_option maxHeartbeats 4000000 in
set_option maxRecDepth 20000 in
theorem cs_nose {nm : String} {Q : am_P} {L : Nat} {xs : Nat → Int32} {z : am_Z} {m : Nat → Nat → Int32} {n cu su i : Nat} {D K : Nat → Nat → Nat} (hz : z.1 = (L, xs)) (hI : IV i z m n D K) (hi : i + 5 ≤ L) (hL : L ≤ 2560) (hcu : cu + 7 ≤ 600000) (hsu : su + 50 ≤ 7302250) (kk : ∀ z' m' n' D' K' cu' su', z'.1 = (L, xs) → IV (i + 5) z' m' n' D' K' → cu' ≤ cu + 7 → su' ≤ su + 50 → AW (mL_law nm) Q 860 [some (.ref 0), some (.ref 1), some (.ref 37), some (.int (nI i))] [] (wd z' m') n' cu' su') : AW (mL_law nm) Q 672 [some (.ref 0), some (.ref 1), some (.ref 37), some (.int (nI i))] [] (wd z m) n cu su := by
  have e0 : wd z m 0 = .inl (0, L, xs) := by show Sum.inl (0, z.1.1, z.1.2) = _; rw [hz]
  refine r_aload_n 673 rfl 1 dL_law_672 rfl rfl ?_
  refine r_aload_n 674 rfl 0 dL_law_673 rfl rfl ?_
  refine r_iload_n 675 rfl 3 dL_law_674 rfl rfl ?_
  refine r_iconst 676 rfl 1 dL_law_675 rfl ?_
  refine r_iadd 677 rfl dL_law_676 ?_
  rw [show (nI i) + 1 = nI (i + 1) from nI_add i 1]
  refine r_iald (f := xs) 678 rfl (i + 1) dL_law_677 e0 rfl (by omega) (by omega) ?_
  refine r_aload_n 679 rfl 0 dL_law_678 rfl rfl ?_
  refine r_iload_n 680 rfl 3 dL_law_679 rfl rfl ?_
  refine r_iconst 681 rfl 2 dL_law_680 rfl ?_
  refine r_iadd 682 rfl dL_law_681 ?_
  rw [show (nI i) + 2 = nI (i + 2) from nI_add i 2]
  refine r_iald (f := xs) 683 rfl (i + 2) dL_law_682 e0 rfl (by omega) (by omega) ?_
  refine r_callV 686 rfl [.int (xs (i + 1)), .int (xs (i + 2))] rfl dL_law_683 cl_L_law__X9_nose (lk_L_92 rfl) im_X9_nose (ci := 9) rfl sl_X9__X9_nose rfl (Nat.le_of_ble_eq_true rfl) (fun _ _ => Nat.le_of_ble_eq_true rfl) ⟨(show cu + 0 ≤ 600000 by omega), (show su + 0 ≤ 7302250 by omega)⟩ (AW.k0 (P_nose hI (by omega) (xs (i + 1)) (xs (i + 2)))) (fun r h1 n1 hq => ?_)
  obtain ⟨⟨⟨y, rfl⟩, ⟨fs1, g37⟩, hk⟩, g0⟩ := hq
  have f0 : h1 0 = .inl (0, L, xs) := g0.trans e0
  show AW _ _ 686 [some (.ref 0), some (.ref 1), some (.ref 37), some (.int (nI i))] [.int y] h1 n1 (cu + 0) (su + 0)
  refine r_aload_n 687 rfl 2 dL_law_686 rfl rfl ?_
  refine r_aload_n 688 rfl 0 dL_law_687 rfl rfl ?_
  refine r_iload_n 689 rfl 3 dL_law_688 rfl rfl ?_
  refine r_iconst 690 rfl 1 dL_law_689 rfl ?_
  refine r_iadd 691 rfl dL_law_690 ?_
  rw [show (nI i) + 1 = nI (i + 1) from nI_add i 1]
  refine r_iald (f := xs) 692 rfl (i + 1) dL_law_691 f0 rfl (by omega) (by omega) ?_
  refine r_aload_n 693 rfl 0 dL_law_692 rfl rfl ?_
  refine r_iload_n 694 rfl 3 dL_law_693 rfl rfl ?_
  refine r_iconst 695 rfl 2 dL_law_694 rfl ?_
  refine r_iadd 696 rfl dL_law_695 ?_
  rw [show (nI i) + 2 = nI (i + 2) from nI_add i 2]
  refine r_iald (f := xs) 697 rfl (i + 2) dL_law_696 f0 rfl (by omega) (by omega) ?_
  refine r_callV 700 rfl [.int (xs (i + 1)), .int (xs (i + 2))] rfl dL_law_697 cl_L_law__X10_nose (lk_L_95 rfl) im_X10_nose (ci := 10) rfl sl_X10__X10_nose g37 (Nat.le_of_ble_eq_true rfl) (fun _ _ => Nat.le_of_ble_eq_true rfl) ⟨(show cu + 0 + 0 ≤ 600000 by omega), (show su + 0 + 0 ≤ 7302250 by omega)⟩ (AW.k0 (hk (fun r h n => r = some (.int y) ∧ ∃ z m D K, h = wd z m ∧ IV (i + 5) z m n D K) (fun z m n D K h => ⟨rfl, z, m, D, K, rfl, h⟩))) (fun r h2 n2 hq2 => ?_)
  obtain ⟨⟨rfl, z2, m2, D2, K2, rfl, hI2⟩, g2⟩ := hq2
  have hz2 : z2.1 = (L, xs) := (wd_z (g2.trans g0)).trans hz
  show AW _ _ 700 [some (.ref 0), some (.ref 1), some (.ref 37), some (.int (nI i))] [.int y, .int y] (wd z2 m2) n2 (cu + 0 + 0) (su + 0 + 0)
  refine r_icmp_eq 703 860 rfl dL_law_700 rfl (fun _ => ?_) (fun q__ => absurd rfl q__)
  exact kk z2 m2 n2 D2 K2 _ _ hz2 hI2 (show cu + 0 + 0 ≤ cu + 7 by omega) (show su + 0 + 0 ≤ su + 50 by omega)

set_option maxHeartbeats 4000000 in
set_option maxRecDepth 20000 in
theorem cs_forget {nm : String} {Q : am_P} {L : Nat} {xs : Nat → Int32} {z : am_Z} {m : Nat → Nat → Int32} {n cu su i : Nat} {D K : Nat → Nat → Nat} (hz : z.1 = (L, xs)) (hI : IV i z m n D K) (hi : i + 5 ≤ L) (hL : L ≤ 2560) (hcu : cu + 7 ≤ 600000) (hsu : su + 50 ≤ 7302250) (kk : ∀ z' m' n' D' K' cu' su', z'.1 = (L, xs) → IV (i + 5) z' m' n' D' K' → cu' ≤ cu + 7 → su' ≤ su + 50 → AW (mL_law nm) Q 860 [some (.ref 0), some (.ref 1), some (.ref 37), some (.int (nI i))] [] (wd z' m') n' cu' su') : AW (mL_law nm) Q 705 [some (.ref 0), some (.ref 1), some (.ref 37), some (.int (nI i))] [] (wd z m) n cu su := by
  have e0 : wd z m 0 = .inl (0, L, xs) := by show Sum.inl (0, z.1.1, z.1.2) = _; rw [hz]
  refine r_aload_n 706 rfl 1 dL_law_705 rfl rfl ?_
  refine r_callV 709 rfl [] rfl dL_law_706 cl_L_law__X9_forget (lk_L_96 rfl) im_X9_forget (ci := 9) rfl sl_X9__X9_forget rfl (Nat.le_of_ble_eq_true rfl) (fun _ _ => Nat.le_of_ble_eq_true rfl) ⟨(show cu + 0 ≤ 600000 by omega), (show su + 0 ≤ 7302250 by omega)⟩ (AW.k0 (P_forget hI (by omega) )) (fun r h1 n1 hq => ?_)
  obtain ⟨⟨⟨y, rfl⟩, ⟨fs1, g37⟩, hk⟩, g0⟩ := hq
  have f0 : h1 0 = .inl (0, L, xs) := g0.trans e0
  show AW _ _ 709 [some (.ref 0), some (.ref 1), some (.ref 37), some (.int (nI i))] [.int y] h1 n1 (cu + 0) (su + 0)
  refine r_aload_n 710 rfl 2 dL_law_709 rfl rfl ?_
  refine r_callV 713 rfl [] rfl dL_law_710 cl_L_law__X10_forget (lk_L_99 rfl) im_X10_forget (ci := 10) rfl sl_X10__X10_forget g37 (Nat.le_of_ble_eq_true rfl) (fun _ _ => Nat.le_of_ble_eq_true rfl) ⟨(show cu + 0 + 0 ≤ 600000 by omega), (show su + 0 + 0 ≤ 7302250 by omega)⟩ (AW.k0 (hk (fun r h n => r = some (.int y) ∧ ∃ z m D K, h = wd z m ∧ IV (i + 5) z m n D K) (fun z m n D K h => ⟨rfl, z, m, D, K, rfl, h⟩))) (fun r h2 n2 hq2 => ?_)
  obtain ⟨⟨rfl, z2, m2, D2, K2, rfl, hI2⟩, g2⟩ := hq2
  have hz2 : z2.1 = (L, xs) := (wd_z (g2.trans g0)).trans hz
  show AW _ _ 713 [some (.ref 0), some (.ref 1), some (.ref 37), some (.int (nI i))] [.int y, .int y] (wd z2 m2) n2 (cu + 0 + 0) (su + 0 + 0)
  refine r_icmp_eq 716 860 rfl dL_law_713 rfl (fun _ => ?_) (fun q__ => absurd rfl q__)
  exact kk z2 m2 n2 D2 K2 _ _ hz2 hI2 (show cu + 0 + 0 ≤ cu + 7 by omega) (show su + 0 + 0 ≤ su + 50 by omega)

set_option maxHeartbeats 4000000 in
set_option maxRecDepth 20000 in
theorem cs_unknown {nm : String} {Q : am_P} {L : Nat} {xs : Nat → Int32} {z : am_Z} {m : Nat → Nat → Int32} {n cu su i : Nat} {D K : Nat → Nat → Nat} (hz : z.1 = (L, xs)) (hI : IV i z m n D K) (hi : i + 5 ≤ L) (hL : L ≤ 2560) (hcu : cu + 7 ≤ 600000) (hsu : su + 50 ≤ 7302250) (kk : ∀ z' m' n' D' K' cu' su', z'.1 = (L, xs) → IV (i + 5) z' m' n' D' K' → cu' ≤ cu + 7 → su' ≤ su + 50 → AW (mL_law nm) Q 860 [some (.ref 0), some (.ref 1), some (.ref 37), some (.int (nI i))] [] (wd z' m') n' cu' su') : AW (mL_law nm) Q 718 [some (.ref 0), some (.ref 1), some (.ref 37), some (.int (nI i))] [] (wd z m) n cu su := by
  have e0 : wd z m 0 = .inl (0, L, xs) := by show Sum.inl (0, z.1.1, z.1.2) = _; rw [hz]
  refine r_aload_n 719 rfl 1 dL_law_718 rfl rfl ?_
  refine r_aload_n 720 rfl 0 dL_law_719 rfl rfl ?_
  refine r_iload_n 721 rfl 3 dL_law_720 rfl rfl ?_
  refine r_iconst 722 rfl 1 dL_law_721 rfl ?_
  refine r_iadd 723 rfl dL_law_722 ?_
  rw [show (nI i) + 1 = nI (i + 1) from nI_add i 1]
  refine r_iald (f := xs) 724 rfl (i + 1) dL_law_723 e0 rfl (by omega) (by omega) ?_
  refine r_callV 727 rfl [.int (xs (i + 1))] rfl dL_law_724 cl_L_law__X9_unknown (lk_L_100 rfl) im_X9_unknown (ci := 9) rfl sl_X9__X9_unknown rfl (Nat.le_of_ble_eq_true rfl) (fun _ _ => Nat.le_of_ble_eq_true rfl) ⟨(show cu + 0 ≤ 600000 by omega), (show su + 0 ≤ 7302250 by omega)⟩ (AW.k0 (P_unknown hI (by omega) (xs (i + 1)))) (fun r h1 n1 hq => ?_)
  obtain ⟨⟨⟨y, rfl⟩, ⟨fs1, g37⟩, hk⟩, g0⟩ := hq
  have f0 : h1 0 = .inl (0, L, xs) := g0.trans e0
  show AW _ _ 727 [some (.ref 0), some (.ref 1), some (.ref 37), some (.int (nI i))] [.int y] h1 n1 (cu + 0) (su + 0)
  refine r_aload_n 728 rfl 2 dL_law_727 rfl rfl ?_
  refine r_aload_n 729 rfl 0 dL_law_728 rfl rfl ?_
  refine r_iload_n 730 rfl 3 dL_law_729 rfl rfl ?_
  refine r_iconst 731 rfl 1 dL_law_730 rfl ?_
  refine r_iadd 732 rfl dL_law_731 ?_
  rw [show (nI i) + 1 = nI (i + 1) from nI_add i 1]
  refine r_iald (f := xs) 733 rfl (i + 1) dL_law_732 f0 rfl (by omega) (by omega) ?_
  refine r_callV 736 rfl [.int (xs (i + 1))] rfl dL_law_733 cl_L_law__X10_unknown (lk_L_103 rfl) im_X10_unknown (ci := 10) rfl sl_X10__X10_unknown g37 (Nat.le_of_ble_eq_true rfl) (fun _ _ => Nat.le_of_ble_eq_true rfl) ⟨(show cu + 0 + 0 ≤ 600000 by omega), (show su + 0 + 0 ≤ 7302250 by omega)⟩ (AW.k0 (hk (fun r h n => r = some (.int y) ∧ ∃ z m D K, h = wd z m ∧ IV (i + 5) z m n D K) (fun z m n D K h => ⟨rfl, z, m, D, K, rfl, h⟩))) (fun r h2 n2 hq2 => ?_)
  obtain ⟨⟨rfl, z2, m2, D2, K2, rfl, hI2⟩, g2⟩ := hq2
  have hz2 : z2.1 = (L, xs) := (wd_z (g2.trans g0)).trans hz
  show AW _ _ 736 [some (.ref 0), some (.ref 1), some (.ref 37), some (.int (nI i))] [.int y, .int y] (wd z2 m2) n2 (cu + 0 + 0) (su + 0 + 0)
  refine r_icmp_eq 739 860 rfl dL_law_736 rfl (fun _ => ?_) (fun q__ => absurd rfl q__)
  exact kk z2 m2 n2 D2 K2 _ _ hz2 hI2 (show cu + 0 + 0 ≤ cu + 7 by omega) (show su + 0 + 0 ≤ su + 50 by omega)

set_option maxHeartbeats 4000000 in
set_option maxRecDepth 20000 in
theorem cs_sniff {nm : String} {Q : am_P} {L : Nat} {xs : Nat → Int32} {z : am_Z} {m : Nat → Nat → Int32} {n cu su i : Nat} {D K : Nat → Nat → Nat} (hz : z.1 = (L, xs)) (hI : IV i z m n D K) (hi : i + 5 ≤ L) (hL : L ≤ 2560) (hcu : cu + 7 ≤ 600000) (hsu : su + 50 ≤ 7302250) (kk : ∀ z' m' n' D' K' cu' su', z'.1 = (L, xs) → IV (i + 5) z' m' n' D' K' → cu' ≤ cu + 7 → su' ≤ su + 50 → AW (mL_law nm) Q 860 [some (.ref 0), some (.ref 1), some (.ref 37), some (.int (nI i))] [] (wd z' m') n' cu' su') : AW (mL_law nm) Q 741 [some (.ref 0), some (.ref 1), some (.ref 37), some (.int (nI i))] [] (wd z m) n cu su := by
  have e0 : wd z m 0 = .inl (0, L, xs) := by show Sum.inl (0, z.1.1, z.1.2) = _; rw [hz]
  refine r_aload_n 742 rfl 1 dL_law_741 rfl rfl ?_
  refine r_callV 745 rfl [] rfl dL_law_742 cl_L_law__X9_sniff (lk_L_104 rfl) im_X9_sniff (ci := 9) rfl sl_X9__X9_sniff rfl (Nat.le_of_ble_eq_true rfl) (fun _ _ => Nat.le_of_ble_eq_true rfl) ⟨(show cu + 0 ≤ 600000 by omega), (show su + 0 ≤ 7302250 by omega)⟩ (AW.k0 (P_sniff hI (by omega) )) (fun r h1 n1 hq => ?_)
  obtain ⟨⟨⟨y, rfl⟩, ⟨fs1, g37⟩, hk⟩, g0⟩ := hq
  have f0 : h1 0 = .inl (0, L, xs) := g0.trans e0
  show AW _ _ 745 [some (.ref 0), some (.ref 1), some (.ref 37), some (.int (nI i))] [.int y] h1 n1 (cu + 0) (su + 0)
  refine r_aload_n 746 rfl 2 dL_law_745 rfl rfl ?_
  refine r_callV 749 rfl [] rfl dL_law_746 cl_L_law__X10_sniff (lk_L_107 rfl) im_X10_sniff (ci := 10) rfl sl_X10__X10_sniff g37 (Nat.le_of_ble_eq_true rfl) (fun _ _ => Nat.le_of_ble_eq_true rfl) ⟨(show cu + 0 + 0 ≤ 600000 by omega), (show su + 0 + 0 ≤ 7302250 by omega)⟩ (AW.k0 (hk (fun r h n => r = some (.int y) ∧ ∃ z m D K, h = wd z m ∧ IV (i + 5) z m n D K) (fun z m n D K h => ⟨rfl, z, m, D, K, rfl, h⟩))) (fun r h2 n2 hq2 => ?_)
  obtain ⟨⟨rfl, z2, m2, D2, K2, rfl, hI2⟩, g2⟩ := hq2
  have hz2 : z2.1 = (L, xs) := (wd_z (g2.trans g0)).trans hz
  show AW _ _ 749 [some (.ref 0), some (.ref 1), some (.ref 37), some (.int (nI i))] [.int y, .int y] (wd z2 m2) n2 (cu + 0 + 0) (su + 0 + 0)
  refine r_icmp_eq 752 860 rfl dL_law_749 rfl (fun _ => ?_) (fun q__ => absurd rfl q__)
  exact kk z2 m2 n2 D2 K2 _ _ hz2 hI2 (show cu + 0 + 0 ≤ cu + 7 by omega) (show su + 0 + 0 ≤ su + 50 by omega)

set_option maxHeartbeats 4000000 in
set_option maxRecDepth 20000 in
theorem cs_days {nm : String} {Q : am_P} {L : Nat} {xs : Nat → Int32} {z : am_Z} {m : Nat → Nat → Int32} {n cu su i : Nat} {D K : Nat → Nat → Nat} (hz : z.1 = (L, xs)) (hI : IV i z m n D K) (hi : i + 5 ≤ L) (hL : L ≤ 2560) (hcu : cu + 7 ≤ 600000) (hsu : su + 50 ≤ 7302250) (kk : ∀ z' m' n' D' K' cu' su', z'.1 = (L, xs) → IV (i + 5) z' m' n' D' K' → cu' ≤ cu + 7 → su' ≤ su + 50 → AW (mL_law nm) Q 860 [some (.ref 0), some (.ref 1), some (.ref 37), some (.int (nI i))] [] (wd z' m') n' cu' su') : AW (mL_law nm) Q 754 [some (.ref 0), some (.ref 1), some (.ref 37), some (.int (nI i))] [] (wd z m) n cu su := by
  have e0 : wd z m 0 = .inl (0, L, xs) := by show Sum.inl (0, z.1.1, z.1.2) = _; rw [hz]
  refine r_aload_n 755 rfl 1 dL_law_754 rfl rfl ?_
  refine r_aload_n 756 rfl 0 dL_law_755 rfl rfl ?_
  refine r_iload_n 757 rfl 3 dL_law_756 rfl rfl ?_
  refine r_iconst 758 rfl 1 dL_law_757 rfl ?_
  refine r_iadd 759 rfl dL_law_758 ?_
  rw [show (nI i) + 1 = nI (i + 1) from nI_add i 1]
  refine r_iald (f := xs) 760 rfl (i + 1) dL_law_759 e0 rfl (by omega) (by omega) ?_
  refine r_aload_n 761 rfl 0 dL_law_760 rfl rfl ?_
  refine r_iload_n 762 rfl 3 dL_law_761 rfl rfl ?_
  refine r_iconst 763 rfl 2 dL_law_762 rfl ?_
  refine r_iadd 764 rfl dL_law_763 ?_
  rw [show (nI i) + 2 = nI (i + 2) from nI_add i 2]
  refine r_iald (f := xs) 765 rfl (i + 2) dL_law_764 e0 rfl (by omega) (by omega) ?_
  refine r_aload_n 766 rfl 0 dL_law_765 rfl rfl ?_
  refine r_iload_n 767 rfl 3 dL_law_766 rfl rfl ?_
  refine r_iconst 768 rfl 3 dL_law_767 rfl ?_
  refine r_iadd 769 rfl dL_law_768 ?_
  rw [show (nI i) + 3 = nI (i + 3) from nI_add i 3]
  refine r_iald (f := xs) 770 rfl (i + 3) dL_law_769 e0 rfl (by omega) (by omega) ?_
  refine r_callV 773 rfl [.int (xs (i + 1)), .int (xs (i + 2)), .int (xs (i + 3))] rfl dL_law_770 cl_L_law__X9_days (lk_L_108 rfl) im_X9_days (ci := 9) rfl sl_X9__X9_days rfl (Nat.le_of_ble_eq_true rfl) (fun _ _ => Nat.le_of_ble_eq_true rfl) ⟨(show cu + 0 ≤ 600000 by omega), (show su + 0 ≤ 7302250 by omega)⟩ (AW.k0 (P_days hI (by omega) (xs (i + 1)) (xs (i + 2)) (xs (i + 3)))) (fun r h1 n1 hq => ?_)
  obtain ⟨⟨⟨y, rfl⟩, ⟨fs1, g37⟩, hk⟩, g0⟩ := hq
  have f0 : h1 0 = .inl (0, L, xs) := g0.trans e0
  show AW _ _ 773 [some (.ref 0), some (.ref 1), some (.ref 37), some (.int (nI i))] [.int y] h1 n1 (cu + 0) (su + 0)
  refine r_aload_n 774 rfl 2 dL_law_773 rfl rfl ?_
  refine r_aload_n 775 rfl 0 dL_law_774 rfl rfl ?_
  refine r_iload_n 776 rfl 3 dL_law_775 rfl rfl ?_
  refine r_iconst 777 rfl 1 dL_law_776 rfl ?_
  refine r_iadd 778 rfl dL_law_777 ?_
  rw [show (nI i) + 1 = nI (i + 1) from nI_add i 1]
  refine r_iald (f := xs) 779 rfl (i + 1) dL_law_778 f0 rfl (by omega) (by omega) ?_
  refine r_aload_n 780 rfl 0 dL_law_779 rfl rfl ?_
  refine r_iload_n 781 rfl 3 dL_law_780 rfl rfl ?_
  refine r_iconst 782 rfl 2 dL_law_781 rfl ?_
  refine r_iadd 783 rfl dL_law_782 ?_
  rw [show (nI i) + 2 = nI (i + 2) from nI_add i 2]
  refine r_iald (f := xs) 784 rfl (i + 2) dL_law_783 f0 rfl (by omega) (by omega) ?_
  refine r_aload_n 785 rfl 0 dL_law_784 rfl rfl ?_
  refine r_iload_n 786 rfl 3 dL_law_785 rfl rfl ?_
  refine r_iconst 787 rfl 3 dL_law_786 rfl ?_
  refine r_iadd 788 rfl dL_law_787 ?_
  rw [show (nI i) + 3 = nI (i + 3) from nI_add i 3]
  refine r_iald (f := xs) 789 rfl (i + 3) dL_law_788 f0 rfl (by omega) (by omega) ?_
  refine r_callV 792 rfl [.int (xs (i + 1)), .int (xs (i + 2)), .int (xs (i + 3))] rfl dL_law_789 cl_L_law__X10_days (lk_L_111 rfl) im_X10_days (ci := 10) rfl sl_X10__X10_days g37 (Nat.le_of_ble_eq_true rfl) (fun _ _ => Nat.le_of_ble_eq_true rfl) ⟨(show cu + 0 + 0 ≤ 600000 by omega), (show su + 0 + 0 ≤ 7302250 by omega)⟩ (AW.k0 (hk (fun r h n => r = some (.int y) ∧ ∃ z m D K, h = wd z m ∧ IV (i + 5) z m n D K) (fun z m n D K h => ⟨rfl, z, m, D, K, rfl, h⟩))) (fun r h2 n2 hq2 => ?_)
  obtain ⟨⟨rfl, z2, m2, D2, K2, rfl, hI2⟩, g2⟩ := hq2
  have hz2 : z2.1 = (L, xs) := (wd_z (g2.trans g0)).trans hz
  show AW _ _ 792 [some (.ref 0), some (.ref 1), some (.ref 37), some (.int (nI i))] [.int y, .int y] (wd z2 m2) n2 (cu + 0 + 0) (su + 0 + 0)
  refine r_icmp_eq 795 860 rfl dL_law_792 rfl (fun _ => ?_) (fun q__ => absurd rfl q__)
  exact kk z2 m2 n2 D2 K2 _ _ hz2 hI2 (show cu + 0 + 0 ≤ cu + 7 by omega) (show su + 0 + 0 ≤ su + 50 by omega)

set_option maxHeartbeats 4000000 in
set_option maxRecDepth 20000 in
theorem cs_image {nm : String} {Q : am_P} {L : Nat} {xs : Nat → Int32} {z : am_Z} {m : Nat → Nat → Int32} {n cu su i : Nat} {D K : Nat → Nat → Nat} (hz : z.1 = (L, xs)) (hI : IV i z m n D K) (hi : i + 5 ≤ L) (hL : L ≤ 2560) (hcu : cu + 7 ≤ 600000) (hsu : su + 50 ≤ 7302250) (kk : ∀ z' m' n' D' K' cu' su', z'.1 = (L, xs) → IV (i + 5) z' m' n' D' K' → cu' ≤ cu + 7 → su' ≤ su + 50 → AW (mL_law nm) Q 860 [some (.ref 0), some (.ref 1), some (.ref 37), some (.int (nI i))] [] (wd z' m') n' cu' su') : AW (mL_law nm) Q 797 [some (.ref 0), some (.ref 1), some (.ref 37), some (.int (nI i))] [] (wd z m) n cu su := by
  have e0 : wd z m 0 = .inl (0, L, xs) := by show Sum.inl (0, z.1.1, z.1.2) = _; rw [hz]
  refine r_aload_n 798 rfl 1 dL_law_797 rfl rfl ?_
  refine r_callV 801 rfl [] rfl dL_law_798 cl_L_law__X9_image (lk_L_112 rfl) im_X9_image (ci := 9) rfl sl_X9__X9_image rfl (Nat.le_of_ble_eq_true rfl) (fun _ _ => Nat.le_of_ble_eq_true rfl) ⟨(show cu + 0 ≤ 600000 by omega), (show su + 0 ≤ 7302250 by omega)⟩ (AW.k0 (P_image hI (by omega) )) (fun r h1 n1 hq => ?_)
  obtain ⟨⟨⟨y, rfl⟩, ⟨fs1, g37⟩, hk⟩, g0⟩ := hq
  have f0 : h1 0 = .inl (0, L, xs) := g0.trans e0
  show AW _ _ 801 [some (.ref 0), some (.ref 1), some (.ref 37), some (.int (nI i))] [.int y] h1 n1 (cu + 0) (su + 0)
  refine r_aload_n 802 rfl 2 dL_law_801 rfl rfl ?_
  refine r_callV 805 rfl [] rfl dL_law_802 cl_L_law__X10_image (lk_L_115 rfl) im_X10_image (ci := 10) rfl sl_X10__X10_image g37 (Nat.le_of_ble_eq_true rfl) (fun _ _ => Nat.le_of_ble_eq_true rfl) ⟨(show cu + 0 + 0 ≤ 600000 by omega), (show su + 0 + 0 ≤ 7302250 by omega)⟩ (AW.k0 (hk (fun r h n => r = some (.int y) ∧ ∃ z m D K, h = wd z m ∧ IV (i + 5) z m n D K) (fun z m n D K h => ⟨rfl, z, m, D, K, rfl, h⟩))) (fun r h2 n2 hq2 => ?_)
  obtain ⟨⟨rfl, z2, m2, D2, K2, rfl, hI2⟩, g2⟩ := hq2
  have hz2 : z2.1 = (L, xs) := (wd_z (g2.trans g0)).trans hz
  show AW _ _ 805 [some (.ref 0), some (.ref 1), some (.ref 37), some (.int (nI i))] [.int y, .int y] (wd z2 m2) n2 (cu + 0 + 0) (su + 0 + 0)
  refine r_icmp_eq 808 860 rfl dL_law_805 rfl (fun _ => ?_) (fun q__ => absurd rfl q__)
  exact kk z2 m2 n2 D2 K2 _ _ hz2 hI2 (show cu + 0 + 0 ≤ cu + 7 by omega) (show su + 0 + 0 ≤ su + 50 by omega)

set_option maxHeartbeats 4000000 in
set_option maxRecDepth 20000 in
theorem cs_restore {nm : String} {Q : am_P} {L : Nat} {xs : Nat → Int32} {z : am_Z} {m : Nat → Nat → Int32} {n cu su i : Nat} {D K : Nat → Nat → Nat} (hz : z.1 = (L, xs)) (hI : IV i z m n D K) (hi : i + 5 ≤ L) (hL : L ≤ 2560) (hcu : cu + 7 ≤ 600000) (hsu : su + 50 ≤ 7302250) (kk : ∀ z' m' n' D' K' cu' su', z'.1 = (L, xs) → IV (i + 5) z' m' n' D' K' → cu' ≤ cu + 7 → su' ≤ su + 50 → AW (mL_law nm) Q 860 [some (.ref 0), some (.ref 1), some (.ref 37), some (.int (nI i))] [] (wd z' m') n' cu' su') : AW (mL_law nm) Q 810 [some (.ref 0), some (.ref 1), some (.ref 37), some (.int (nI i))] [] (wd z m) n cu su := by
  have e0 : wd z m 0 = .inl (0, L, xs) := by show Sum.inl (0, z.1.1, z.1.2) = _; rw [hz]
  refine r_aload_n 811 rfl 1 dL_law_810 rfl rfl ?_
  refine r_callV 814 rfl [] rfl dL_law_811 cl_L_law__X9_restore (lk_L_116 rfl) im_X9_restore (ci := 9) rfl sl_X9__X9_restore rfl (Nat.le_of_ble_eq_true rfl) (fun _ _ => Nat.le_of_ble_eq_true rfl) ⟨(show cu + 0 ≤ 600000 by omega), (show su + 0 ≤ 7302250 by omega)⟩ (AW.k0 (P_restore hI (by omega) )) (fun r h1 n1 hq => ?_)
  obtain ⟨⟨⟨y, rfl⟩, ⟨fs1, g37⟩, hk⟩, g0⟩ := hq
  have f0 : h1 0 = .inl (0, L, xs) := g0.trans e0
  show AW _ _ 814 [some (.ref 0), some (.ref 1), some (.ref 37), some (.int (nI i))] [.int y] h1 n1 (cu + 0) (su + 0)
  refine r_aload_n 815 rfl 2 dL_law_814 rfl rfl ?_
  refine r_callV 818 rfl [] rfl dL_law_815 cl_L_law__X10_restore (lk_L_119 rfl) im_X10_restore (ci := 10) rfl sl_X10__X10_restore g37 (Nat.le_of_ble_eq_true rfl) (fun _ _ => Nat.le_of_ble_eq_true rfl) ⟨(show cu + 0 + 0 ≤ 600000 by omega), (show su + 0 + 0 ≤ 7302250 by omega)⟩ (AW.k0 (hk (fun r h n => r = some (.int y) ∧ ∃ z m D K, h = wd z m ∧ IV (i + 5) z m n D K) (fun z m n D K h => ⟨rfl, z, m, D, K, rfl, h⟩))) (fun r h2 n2 hq2 => ?_)
  obtain ⟨⟨rfl, z2, m2, D2, K2, rfl, hI2⟩, g2⟩ := hq2
  have hz2 : z2.1 = (L, xs) := (wd_z (g2.trans g0)).trans hz
  show AW _ _ 818 [some (.ref 0), some (.ref 1), some (.ref 37), some (.int (nI i))] [.int y, .int y] (wd z2 m2) n2 (cu + 0 + 0) (su + 0 + 0)
  refine r_icmp_eq 821 860 rfl dL_law_818 rfl (fun _ => ?_) (fun q__ => absurd rfl q__)
  exact kk z2 m2 n2 D2 K2 _ _ hz2 hI2 (show cu + 0 + 0 ≤ cu + 7 by omega) (show su + 0 + 0 ≤ su + 50 by omega)

set_option maxHeartbeats 4000000 in
set_option maxRecDepth 20000 in
theorem cs_count {nm : String} {Q : am_P} {L : Nat} {xs : Nat → Int32} {z : am_Z} {m : Nat → Nat → Int32} {n cu su i : Nat} {D K : Nat → Nat → Nat} (hz : z.1 = (L, xs)) (hI : IV i z m n D K) (hi : i + 5 ≤ L) (hL : L ≤ 2560) (hcu : cu + 7 ≤ 600000) (hsu : su + 50 ≤ 7302250) (kk : ∀ z' m' n' D' K' cu' su', z'.1 = (L, xs) → IV (i + 5) z' m' n' D' K' → cu' ≤ cu + 7 → su' ≤ su + 50 → AW (mL_law nm) Q 860 [some (.ref 0), some (.ref 1), some (.ref 37), some (.int (nI i))] [] (wd z' m') n' cu' su') : AW (mL_law nm) Q 823 [some (.ref 0), some (.ref 1), some (.ref 37), some (.int (nI i))] [] (wd z m) n cu su := by
  have e0 : wd z m 0 = .inl (0, L, xs) := by show Sum.inl (0, z.1.1, z.1.2) = _; rw [hz]
  refine r_aload_n 824 rfl 1 dL_law_823 rfl rfl ?_
  refine r_aload_n 825 rfl 0 dL_law_824 rfl rfl ?_
  refine r_iload_n 826 rfl 3 dL_law_825 rfl rfl ?_
  refine r_iconst 827 rfl 1 dL_law_826 rfl ?_
  refine r_iadd 828 rfl dL_law_827 ?_
  rw [show (nI i) + 1 = nI (i + 1) from nI_add i 1]
  refine r_iald (f := xs) 829 rfl (i + 1) dL_law_828 e0 rfl (by omega) (by omega) ?_
  refine r_callV 832 rfl [.int (xs (i + 1))] rfl dL_law_829 cl_L_law__X9_count (lk_L_120 rfl) im_X9_count (ci := 9) rfl sl_X9__X9_count rfl (Nat.le_of_ble_eq_true rfl) (fun _ _ => Nat.le_of_ble_eq_true rfl) ⟨(show cu + 0 ≤ 600000 by omega), (show su + 0 ≤ 7302250 by omega)⟩ (AW.k0 (P_count hI (by omega) (xs (i + 1)))) (fun r h1 n1 hq => ?_)
  obtain ⟨⟨⟨y, rfl⟩, ⟨fs1, g37⟩, hk⟩, g0⟩ := hq
  have f0 : h1 0 = .inl (0, L, xs) := g0.trans e0
  show AW _ _ 832 [some (.ref 0), some (.ref 1), some (.ref 37), some (.int (nI i))] [.int y] h1 n1 (cu + 0) (su + 0)
  refine r_aload_n 833 rfl 2 dL_law_832 rfl rfl ?_
  refine r_aload_n 834 rfl 0 dL_law_833 rfl rfl ?_
  refine r_iload_n 835 rfl 3 dL_law_834 rfl rfl ?_
  refine r_iconst 836 rfl 1 dL_law_835 rfl ?_
  refine r_iadd 837 rfl dL_law_836 ?_
  rw [show (nI i) + 1 = nI (i + 1) from nI_add i 1]
  refine r_iald (f := xs) 838 rfl (i + 1) dL_law_837 f0 rfl (by omega) (by omega) ?_
  refine r_callV 841 rfl [.int (xs (i + 1))] rfl dL_law_838 cl_L_law__X10_count (lk_L_123 rfl) im_X10_count (ci := 10) rfl sl_X10__X10_count g37 (Nat.le_of_ble_eq_true rfl) (fun _ _ => Nat.le_of_ble_eq_true rfl) ⟨(show cu + 0 + 0 ≤ 600000 by omega), (show su + 0 + 0 ≤ 7302250 by omega)⟩ (AW.k0 (hk (fun r h n => r = some (.int y) ∧ ∃ z m D K, h = wd z m ∧ IV (i + 5) z m n D K) (fun z m n D K h => ⟨rfl, z, m, D, K, rfl, h⟩))) (fun r h2 n2 hq2 => ?_)
  obtain ⟨⟨rfl, z2, m2, D2, K2, rfl, hI2⟩, g2⟩ := hq2
  have hz2 : z2.1 = (L, xs) := (wd_z (g2.trans g0)).trans hz
  show AW _ _ 841 [some (.ref 0), some (.ref 1), some (.ref 37), some (.int (nI i))] [.int y, .int y] (wd z2 m2) n2 (cu + 0 + 0) (su + 0 + 0)
  refine r_icmp_eq 844 860 rfl dL_law_841 rfl (fun _ => ?_) (fun q__ => absurd rfl q__)
  exact kk z2 m2 n2 D2 K2 _ _ hz2 hI2 (show cu + 0 + 0 ≤ cu + 7 by omega) (show su + 0 + 0 ≤ su + 50 by omega)

set_option maxHeartbeats 4000000 in
set_option maxRecDepth 20000 in
theorem cs_digest {nm : String} {Q : am_P} {L : Nat} {xs : Nat → Int32} {z : am_Z} {m : Nat → Nat → Int32} {n cu su i : Nat} {D K : Nat → Nat → Nat} (hz : z.1 = (L, xs)) (hI : IV i z m n D K) (hi : i + 5 ≤ L) (hL : L ≤ 2560) (hcu : cu + 7 ≤ 600000) (hsu : su + 50 ≤ 7302250) (kk : ∀ z' m' n' D' K' cu' su', z'.1 = (L, xs) → IV (i + 5) z' m' n' D' K' → cu' ≤ cu + 7 → su' ≤ su + 50 → AW (mL_law nm) Q 860 [some (.ref 0), some (.ref 1), some (.ref 37), some (.int (nI i))] [] (wd z' m') n' cu' su') : AW (mL_law nm) Q 846 [some (.ref 0), some (.ref 1), some (.ref 37), some (.int (nI i))] [] (wd z m) n cu su := by
  have e0 : wd z m 0 = .inl (0, L, xs) := by show Sum.inl (0, z.1.1, z.1.2) = _; rw [hz]
  refine r_aload_n 847 rfl 1 dL_law_846 rfl rfl ?_
  refine r_callV 850 rfl [] rfl dL_law_847 cl_L_law__X9_digest (lk_L_124 rfl) im_X9_digest (ci := 9) rfl sl_X9__X9_digest rfl (Nat.le_of_ble_eq_true rfl) (fun _ _ => Nat.le_of_ble_eq_true rfl) ⟨(show cu + 0 ≤ 600000 by omega), (show su + 0 ≤ 7302250 by omega)⟩ (AW.k0 (P_digest hI (by omega) )) (fun r h1 n1 hq => ?_)
  obtain ⟨⟨⟨y, rfl⟩, ⟨fs1, g37⟩, hk⟩, g0⟩ := hq
  have f0 : h1 0 = .inl (0, L, xs) := g0.trans e0
  show AW _ _ 850 [some (.ref 0), some (.ref 1), some (.ref 37), some (.int (nI i))] [.long y] h1 n1 (cu + 0) (su + 0)
  refine r_aload_n 851 rfl 2 dL_law_850 rfl rfl ?_
  refine r_callV 854 rfl [] rfl dL_law_851 cl_L_law__X10_digest (lk_L_128 rfl) im_X10_digest (ci := 10) rfl sl_X10__X10_digest g37 (Nat.le_of_ble_eq_true rfl) (fun _ _ => Nat.le_of_ble_eq_true rfl) ⟨(show cu + 0 + 0 ≤ 600000 by omega), (show su + 0 + 0 ≤ 7302250 by omega)⟩ (AW.k0 (hk (fun r h n => r = some (.long y) ∧ ∃ z m D K, h = wd z m ∧ IV (i + 5) z m n D K) (fun z m n D K h => ⟨rfl, z, m, D, K, rfl, h⟩))) (fun r h2 n2 hq2 => ?_)
  obtain ⟨⟨rfl, z2, m2, D2, K2, rfl, hI2⟩, g2⟩ := hq2
  have hz2 : z2.1 = (L, xs) := (wd_z (g2.trans g0)).trans hz
  show AW _ _ 854 [some (.ref 0), some (.ref 1), some (.ref 37), some (.int (nI i))] [.long y, .long y] (wd z2 m2) n2 (cu + 0 + 0) (su + 0 + 0)
  refine r_lcmp 855 rfl dL_law_854 ?_
  refine r_if_eq 858 860 rfl dL_law_855 rfl (fun _ => ?_) (fun q__ => absurd (lg_cmp_self y) q__)
  exact kk z2 m2 n2 D2 K2 _ _ hz2 hI2 (show cu + 0 + 0 ≤ cu + 7 by omega) (show su + 0 + 0 ≤ su + 50 by omega)

set_option maxHeartbeats 4000000 in
set_option maxRecDepth 20000 in
theorem law_loop (nm : String) {L : Nat} {xs : Nat → Int32} (hL : L ≤ 2560) : ∀ (d i : Nat), L ≤ i + d → ∀ (z : am_Z) (m : Nat → Nat → Int32) (n cu su : Nat) (D K : Nat → Nat → Nat), z.1 = (L, xs) → IV i z m n D K → cu ≤ 60 + 7 * i → su ≤ 700 + 50 * i → AW (mL_law nm) (fun r _ _ => r = some (.int 1)) 18 [some (.ref 0), some (.ref 1), some (.ref 37), some (.int (nI i))] [] (wd z m) n cu su := by
  intro d
  induction d using Nat.strongRecOn with
  | _ d ih =>
    intro i hd z m n cu su D K hz hI hcu hsu
    have hi0 : i ≤ 2560 := hI.2.2.2.2.2.2.1.2.2.2.2.2
    have e0 : wd z m 0 = .inl (0, L, xs) := by show Sum.inl (0, z.1.1, z.1.2) = _; rw [hz]
    have hsb := pk_sub_toInt (a := L) (b := 5) (by omega) (by decide)
    have hii := nI_toInt (n := i) (by omega)
    refine r_iload_n 19 rfl 3 dL_law_18 rfl rfl ?_
    refine r_aload_n 20 rfl 0 dL_law_19 rfl rfl ?_
    refine r_alen 21 rfl dL_law_20 e0 ?_
    refine r_iconst 22 rfl 5 dL_law_21 rfl ?_
    refine r_isub 23 rfl dL_law_22 ?_
    refine r_icmp_gt 26 866 rfl dL_law_23 rfl (fun c => ?_) (fun c => ?_)
    · refine r_iconst 867 rfl 1 dL_law_866 rfl ?_
      refine r_zreturn rfl rfl dL_law_867 (show cu ≤ 600000 by omega) (show su ≤ 7302250 by omega) ?_
      rfl
    · have hi : i + 5 ≤ L := by
        have c2 : ¬ (nI L - nI 5).toInt < (nI i).toInt := fun q => c (Int32.lt_iff_toInt_lt.mpr q)
        rw [hsb, hii] at c2
        omega
      have kk : ∀ z' m' n' D' K' cu' su', z'.1 = (L, xs) → IV (i + 5) z' m' n' D' K' → cu' ≤ cu + 7 → su' ≤ su + 50 → AW (mL_law nm) (fun r _ _ => r = some (.int 1)) 860 [some (.ref 0), some (.ref 1), some (.ref 37), some (.int (nI i))] [] (wd z' m') n' cu' su' := by
        intro z' m' n' D' K' cu' su' hz' hI' hc' hs'
        refine r_iinc 863 rfl (nI (i + 5)) [some (.ref 0), some (.ref 1), some (.ref 37), some (.int (nI (i + 5)))] dL_law_860 rfl (nI_5 i) (Nat.le_of_ble_eq_true rfl) rfl ?_
        refine r_goto 18 dL_law_863 rfl ?_
        exact ih (d - 1) (by omega) (i + 5) (by omega) z' m' n' cu' su' D' K' hz' hI' (by omega) (by omega)
      refine r_aload_n 27 rfl 0 dL_law_26 rfl rfl ?_
      refine r_iload_n 28 rfl 3 dL_law_27 rfl rfl ?_
      refine r_iald (f := xs) 29 rfl i dL_law_28 e0 rfl (by omega) (by omega) ?_
      refine r_bipush 31 rfl 31 dL_law_29 (by decide) ?_
      refine r_iand 32 rfl dL_law_31 ?_
      obtain ⟨t, ht, et⟩ := pk_andE (xs i) (m := 31) 5 (by decide)
      rw [et]
      match t, ht with
      | 0, _ =>
        refine r_tabIn 156 dL_law_32 (by decide) (by decide) rfl rfl ?_
        exact cs_letter hz hI hi hL (by omega) (by omega) kk
      | 1, _ =>
        refine r_tabIn 179 dL_law_32 (by decide) (by decide) rfl rfl ?_
        exact cs_blank hz hI hi hL (by omega) (by omega) kk
      | 2, _ =>
        refine r_tabIn 192 dL_law_32 (by decide) (by decide) rfl rfl ?_
        exact cs_fault hz hI hi hL (by omega) (by omega) kk
      | 3, _ =>
        refine r_tabIn 205 dL_law_32 (by decide) (by decide) rfl rfl ?_
        exact cs_valley hz hI hi hL (by omega) (by omega) kk
      | 4, _ =>
        refine r_tabIn 218 dL_law_32 (by decide) (by decide) rfl rfl ?_
        exact cs_cell hz hI hi hL (by omega) (by omega) kk
      | 5, _ =>
        refine r_tabIn 251 dL_law_32 (by decide) (by decide) rfl rfl ?_
        exact cs_borders hz hI hi hL (by omega) (by omega) kk
      | 6, _ =>
        refine r_tabIn 264 dL_law_32 (by decide) (by decide) rfl rfl ?_
        exact cs_source hz hI hi hL (by omega) (by omega) kk
      | 7, _ =>
        refine r_tabIn 317 dL_law_32 (by decide) (by decide) rfl rfl ?_
        exact cs_about hz hI hi hL (by omega) (by omega) kk
      | 8, _ =>
        refine r_tabIn 350 dL_law_32 (by decide) (by decide) rfl rfl ?_
        exact cs_as hz hI hi hL (by omega) (by omega) kk
      | 9, _ =>
        refine r_tabIn 383 dL_law_32 (by decide) (by decide) rfl rfl ?_
        exact cs_burn hz hI hi hL (by omega) (by omega) kk
      | 10, _ =>
        refine r_tabIn 432 dL_law_32 (by decide) (by decide) rfl rfl ?_
        exact cs_wind hz hI hi hL (by omega) (by omega) kk
      | 11, _ =>
        refine r_tabIn 455 dL_law_32 (by decide) (by decide) rfl rfl ?_
        exact cs_frost hz hI hi hL (by omega) (by omega) kk
      | 12, _ =>
        refine r_tabIn 494 dL_law_32 (by decide) (by decide) rfl rfl ?_
        exact cs_people hz hI hi hL (by omega) (by omega) kk
      | 13, _ =>
        refine r_tabIn 527 dL_law_32 (by decide) (by decide) rfl rfl ?_
        exact cs_dusk hz hI hi hL (by omega) (by omega) kk
      | 14, _ =>
        refine r_tabIn 540 dL_law_32 (by decide) (by decide) rfl rfl ?_
        exact cs_hour hz hI hi hL (by omega) (by omega) kk
      | 15, _ =>
        refine r_tabIn 553 dL_law_32 (by decide) (by decide) rfl rfl ?_
        exact cs_weakest hz hI hi hL (by omega) (by omega) kk
      | 16, _ =>
        refine r_tabIn 596 dL_law_32 (by decide) (by decide) rfl rfl ?_
        exact cs_walls hz hI hi hL (by omega) (by omega) kk
      | 17, _ =>
        refine r_tabIn 639 dL_law_32 (by decide) (by decide) rfl rfl ?_
        exact cs_hold hz hI hi hL (by omega) (by omega) kk
      | 18, _ =>
        refine r_tabIn 672 dL_law_32 (by decide) (by decide) rfl rfl ?_
        exact cs_nose hz hI hi hL (by omega) (by omega) kk
      | 19, _ =>
        refine r_tabIn 705 dL_law_32 (by decide) (by decide) rfl rfl ?_
        exact cs_forget hz hI hi hL (by omega) (by omega) kk
      | 20, _ =>
        refine r_tabIn 718 dL_law_32 (by decide) (by decide) rfl rfl ?_
        exact cs_unknown hz hI hi hL (by omega) (by omega) kk
      | 21, _ =>
        refine r_tabIn 741 dL_law_32 (by decide) (by decide) rfl rfl ?_
        exact cs_sniff hz hI hi hL (by omega) (by omega) kk
      | 22, _ =>
        refine r_tabIn 754 dL_law_32 (by decide) (by decide) rfl rfl ?_
        exact cs_days hz hI hi hL (by omega) (by omega) kk
      | 23, _ =>
        refine r_tabIn 797 dL_law_32 (by decide) (by decide) rfl rfl ?_
        exact cs_image hz hI hi hL (by omega) (by omega) kk
      | 24, _ =>
        refine r_tabIn 810 dL_law_32 (by decide) (by decide) rfl rfl ?_
        exact cs_restore hz hI hi hL (by omega) (by omega) kk
      | 25, _ =>
        refine r_tabIn 823 dL_law_32 (by decide) (by decide) rfl rfl ?_
        exact cs_count hz hI hi hL (by omega) (by omega) kk
      | 26, _ =>
        refine r_tabIn 846 dL_law_32 (by decide) (by decide) rfl rfl ?_
        exact cs_digest hz hI hi hL (by omega) (by omega) kk
      | t + 27, ht =>
        refine r_tabOut 860 dL_law_32 (Or.inr ?_) rfl ?_
        · rw [nI_toInt (by omega)]; omega
        · exact kk z m n D K cu su hz (IV_mono hI (by omega) (by omega)) (by omega) (by omega)

set_option maxHeartbeats 4000000 in
set_option maxRecDepth 20000 in
theorem law_all (nm : String) {L : Nat} {xs : Nat → Int32} (hL : L ≤ 2560) : AW (mL_law nm) (fun r _ _ => r = some (.int 1)) 0 (am_ent 4 [.ref 0]) [] (am_h0 L xs) 0 0 0 := by
  show AW _ _ 0 [some (.ref 0), none, none, none] [] _ _ 0 0
  refine s_new 3 1 1 15 rfl rfl rfl dL_law_0 (nf_L_7 rfl) rfl (Nat.le_of_ble_eq_true rfl) (Nat.le_of_ble_eq_true rfl) ?_
  refine r_dup 4 rfl dL_law_3 rfl ?_
  refine q_I 7 36 290 rfl [] rfl dL_law_4 cl_L_law__X9_init (lk_L_9 rfl) im_X9_init rfl rfl (Nat.le_of_ble_eq_true rfl) (fun _ _ => Nat.le_of_ble_eq_true rfl) rfl rfl (Nat.le_of_ble_eq_true rfl) (Nat.le_of_ble_eq_true rfl) ?_
  refine c_i9w (fun T hT => k_v ?_)
  refine r_astore_n 8 rfl 1 [some (.ref 0), some (.ref 1), none, none] dL_law_7 rfl (Nat.le_of_ble_eq_true rfl) rfl ?_
  refine s_new 11 37 37 324 rfl rfl rfl dL_law_8 (nf_L_10 rfl) rfl (Nat.le_of_ble_eq_true rfl) (Nat.le_of_ble_eq_true rfl) ?_
  refine r_dup 12 rfl dL_law_11 rfl ?_
  refine q_I 15 53 590 rfl [] rfl dL_law_12 cl_L_law__X10_init (lk_L_12 rfl) im_X10_init rfl rfl (Nat.le_of_ble_eq_true rfl) (fun _ _ => Nat.le_of_ble_eq_true rfl) rfl rfl (Nat.le_of_ble_eq_true rfl) (Nat.le_of_ble_eq_true rfl) ?_
  refine c_i10w hT (fun T2 hT2 => k_v ?_)
  refine r_astore_n 16 rfl 2 [some (.ref 0), some (.ref 1), some (.ref 37), none] dL_law_15 rfl (Nat.le_of_ble_eq_true rfl) rfl ?_
  refine r_iconst 17 rfl 0 dL_law_16 rfl ?_
  refine r_istore_n 18 rfl 3 [some (.ref 0), some (.ref 1), some (.ref 37), some (.int (nI 0))] dL_law_17 rfl (Nat.le_of_ble_eq_true rfl) rfl ?_
  rw [wd_tow hT2]
  exact law_loop nm hL L 0 (by omega) _ _ 53 53 590 _ _ rfl (IV_0 L xs T2) (by decide) (by decide)

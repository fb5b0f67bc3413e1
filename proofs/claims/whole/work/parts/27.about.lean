def SM (D : Nat → Nat → Nat) (s : Nat) : Nat := if D 5 s = 1 ∧ so_at (D 1 s) (D 7 3) (D 7 4) = true then 1 else 0
def TS (D : Nat → Nat → Nat) (s w : Nat) : Nat := if w = 0 then D 1 s else if w = 1 then D 2 s else if w = 2 then D 3 s else if w = 3 then D 4 s else if w = 4 then D 5 s else if w = 5 then D 6 s else if w = 6 then so_fo (D 1 s) (D 4 s) (D 6 s) else SM D s
theorem c_sm7 {Q : am_P} {z : am_Z} {m : Nat → Nat → Int32} {n : Nat} {D : Nat → Nat → Nat} (hC : C9 z m D) {s : Nat} (hs : s < D 7 1) {q : Nat} (hzr : z.2.1 s = some q) (k : Q (some (.int (nI (SM D s)))) (wd z m) n) : AW mX5_smells Q 0 (am_ent (am_l mX5_smells) [.ref 7, .ref q, .int (nI s)]) [] (wd z m) n 0 0 := by
  obtain ⟨hg, hfd, hf3, hf1, hns, hn6, hsd, hsb, hwi, hw4, hfr, hr1, hhr, hh⟩ := id hC
  obtain ⟨q', hzr', hq, hz, hkd, hpa, hce, hsg1, hsg⟩ := hsd s hs
  obtain rfl : q' = q := Option.some.inj (hzr'.symm.trans hzr)
  obtain ⟨b1, b2, b3, b4⟩ := hsb s hs
  unfold SM at k
  exact c_smells_7 hq hz hkd (by omega) b1 b2 hhr (by omega) hfr hr1 (fun h => by rw [if_pos h] at k; exact k) (fun h => by rw [if_neg h] at k; exact k)
theorem c_sm10 {Q : am_P} {z : am_Z} {m : Nat → Nat → Int32} {n : Nat} {D : Nat → Nat → Nat} (hC : C10 m D) {s : Nat} (hs : s < D 7 1) (k : Q (some (.int (nI (SM D s)))) (wd z m) n) : AW mX10_smells Q 0 (am_ent (am_l mX10_smells) [.ref 37, .int (nI s)]) [] (wd z m) n 0 0 := by
  obtain ⟨hg, hfd, hf3, hf1, hns, hn7, hmr, hwi, hw4, hfr, hr1, hhr, hh⟩ := id hC
  obtain ⟨⟨e0, e1, e2, e3, e4, e5⟩, q1, q2, q3, q4, q5, q6⟩ := hmr s hs
  unfold SM at k
  exact c_X10_smells (by omega) e0 q1 e4 q5 hfr hr1 hhr hh (fun h => by rw [if_pos h] at k; exact k) (fun h => by rw [if_neg h] at k; exact k)
theorem SM_le (D : Nat → Nat → Nat) (s : Nat) : SM D s ≤ 1 := by unfold SM; split <;> omega

set_option maxHeartbeats 4000000 in
set_option maxRecDepth 20000 in
theorem c_tos_0 {Q : am_P} {z : am_Z} {m : Nat → Nat → Int32} {n : Nat} {D : Nat → Nat → Nat} (hC : C9 z m D){s : Nat} (hs : s < D 7 1) {q : Nat} (hzr : z.2.1 s = some q) (k : Q (some (.int (nI (D 1 s)))) (wd z m) n) : AW mX9_tellOfSource Q 0 (am_ent (am_l mX9_tellOfSource) [.ref 1, .ref q, .int (nI s), .int 0]) [] (wd z m) n 0 0 := by
  show AW _ _ 0 [some (.ref 1), some (.ref q), some (.int (nI s)), some (.int 0)] [] _ _ 0 0
  obtain ⟨hg, hfd, hf3, hf0, hns, hn6, hsd, hsb, hwi, hw4, hfr, hr1, hhr, hh⟩ := id hC
  obtain ⟨q', hzr', hq, hz, hkd, hpa, hce, hsg1, hsg⟩ := hsd s hs
  obtain rfl : q = q' := Option.some.inj (hzr.symm.trans hzr')
  obtain ⟨b1, b2, b3, b4⟩ := hsb s hs
  refine r_iload_n 1 rfl 3 dX9_tellOfSource_0 rfl rfl ?_
  refine r_tabIn 44 dX9_tellOfSource_1 (by decide) (by decide) rfl rfl ?_
  refine r_aload_n 45 rfl 1 dX9_tellOfSource_44 rfl rfl ?_
  refine v_X9_tellOfSource_45 hq hz hkd (Nat.le_of_ble_eq_true rfl) ?_
  refine r_ireturn rfl dX9_tellOfSource_48 (Nat.le_of_ble_eq_true rfl) (Nat.le_of_ble_eq_true rfl) ?_
  exact k

set_option maxHeartbeats 4000000 in
set_option maxRecDepth 20000 in
theorem c_tos_1 {Q : am_P} {z : am_Z} {m : Nat → Nat → Int32} {n : Nat} {D : Nat → Nat → Nat} (hC : C9 z m D){s : Nat} (hs : s < D 7 1) {q : Nat} (hzr : z.2.1 s = some q) (k : Q (some (.int (nI (D 2 s)))) (wd z m) n) : AW mX9_tellOfSource Q 0 (am_ent (am_l mX9_tellOfSource) [.ref 1, .ref q, .int (nI s), .int 1]) [] (wd z m) n 0 0 := by
  show AW _ _ 0 [some (.ref 1), some (.ref q), some (.int (nI s)), some (.int 1)] [] _ _ 0 0
  obtain ⟨hg, hfd, hf3, hf0, hns, hn6, hsd, hsb, hwi, hw4, hfr, hr1, hhr, hh⟩ := id hC
  obtain ⟨q', hzr', hq, hz, hkd, hpa, hce, hsg1, hsg⟩ := hsd s hs
  obtain rfl : q = q' := Option.some.inj (hzr.symm.trans hzr')
  obtain ⟨b1, b2, b3, b4⟩ := hsb s hs
  refine r_iload_n 1 rfl 3 dX9_tellOfSource_0 rfl rfl ?_
  refine r_tabIn 49 dX9_tellOfSource_1 (by decide) (by decide) rfl rfl ?_
  refine r_aload_n 50 rfl 1 dX9_tellOfSource_49 rfl rfl ?_
  refine v_gf_X9_307 rfl 53 rfl dX9_tellOfSource_50 hq hz hkd ?_
  refine r_ireturn rfl dX9_tellOfSource_53 (Nat.le_of_ble_eq_true rfl) (Nat.le_of_ble_eq_true rfl) ?_
  exact k

set_option maxHeartbeats 4000000 in
set_option maxRecDepth 20000 in
theorem c_tos_2 {Q : am_P} {z : am_Z} {m : Nat → Nat → Int32} {n : Nat} {D : Nat → Nat → Nat} (hC : C9 z m D){s : Nat} (hs : s < D 7 1) {q : Nat} (hzr : z.2.1 s = some q) (k : Q (some (.int (nI (D 3 s)))) (wd z m) n) : AW mX9_tellOfSource Q 0 (am_ent (am_l mX9_tellOfSource) [.ref 1, .ref q, .int (nI s), .int 2]) [] (wd z m) n 0 0 := by
  show AW _ _ 0 [some (.ref 1), some (.ref q), some (.int (nI s)), some (.int 2)] [] _ _ 0 0
  obtain ⟨hg, hfd, hf3, hf0, hns, hn6, hsd, hsb, hwi, hw4, hfr, hr1, hhr, hh⟩ := id hC
  obtain ⟨q', hzr', hq, hz, hkd, hpa, hce, hsg1, hsg⟩ := hsd s hs
  obtain rfl : q = q' := Option.some.inj (hzr.symm.trans hzr')
  obtain ⟨b1, b2, b3, b4⟩ := hsb s hs
  refine r_iload_n 1 rfl 3 dX9_tellOfSource_0 rfl rfl ?_
  refine r_tabIn 54 dX9_tellOfSource_1 (by decide) (by decide) rfl rfl ?_
  refine r_aload_n 55 rfl 1 dX9_tellOfSource_54 rfl rfl ?_
  refine v_gf_X9_140 rfl 58 rfl dX9_tellOfSource_55 hq hz hkd ?_
  refine r_ireturn rfl dX9_tellOfSource_58 (Nat.le_of_ble_eq_true rfl) (Nat.le_of_ble_eq_true rfl) ?_
  exact k

set_option maxHeartbeats 4000000 in
set_option maxRecDepth 20000 in
theorem c_tos_3 {Q : am_P} {z : am_Z} {m : Nat → Nat → Int32} {n : Nat} {D : Nat → Nat → Nat} (hC : C9 z m D){s : Nat} (hs : s < D 7 1) {q : Nat} (hzr : z.2.1 s = some q) (k : Q (some (.int (nI (D 4 s)))) (wd z m) n) : AW mX9_tellOfSource Q 0 (am_ent (am_l mX9_tellOfSource) [.ref 1, .ref q, .int (nI s), .int 3]) [] (wd z m) n 0 0 := by
  show AW _ _ 0 [some (.ref 1), some (.ref q), some (.int (nI s)), some (.int 3)] [] _ _ 0 0
  obtain ⟨hg, hfd, hf3, hf0, hns, hn6, hsd, hsb, hwi, hw4, hfr, hr1, hhr, hh⟩ := id hC
  obtain ⟨q', hzr', hq, hz, hkd, hpa, hce, hsg1, hsg⟩ := hsd s hs
  obtain rfl : q = q' := Option.some.inj (hzr.symm.trans hzr')
  obtain ⟨b1, b2, b3, b4⟩ := hsb s hs
  refine r_iload_n 1 rfl 3 dX9_tellOfSource_0 rfl rfl ?_
  refine r_tabIn 59 dX9_tellOfSource_1 (by decide) (by decide) rfl rfl ?_
  refine r_aload_n 60 rfl 1 dX9_tellOfSource_59 rfl rfl ?_
  refine v_gf_X9_310 rfl 63 rfl dX9_tellOfSource_60 hq hz hkd ?_
  refine r_ireturn rfl dX9_tellOfSource_63 (Nat.le_of_ble_eq_true rfl) (Nat.le_of_ble_eq_true rfl) ?_
  exact k

set_option maxHeartbeats 4000000 in
set_option maxRecDepth 20000 in
theorem c_tos_4 {Q : am_P} {z : am_Z} {m : Nat → Nat → Int32} {n : Nat} {D : Nat → Nat → Nat} (hC : C9 z m D){s : Nat} (hs : s < D 7 1) {q : Nat} (hzr : z.2.1 s = some q) (k : Q (some (.int (nI (D 5 s)))) (wd z m) n) : AW mX9_tellOfSource Q 0 (am_ent (am_l mX9_tellOfSource) [.ref 1, .ref q, .int (nI s), .int 4]) [] (wd z m) n 0 0 := by
  show AW _ _ 0 [some (.ref 1), some (.ref q), some (.int (nI s)), some (.int 4)] [] _ _ 0 0
  obtain ⟨hg, hfd, hf3, hf0, hns, hn6, hsd, hsb, hwi, hw4, hfr, hr1, hhr, hh⟩ := id hC
  obtain ⟨q', hzr', hq, hz, hkd, hpa, hce, hsg1, hsg⟩ := hsd s hs
  obtain rfl : q = q' := Option.some.inj (hzr.symm.trans hzr')
  obtain ⟨b1, b2, b3, b4⟩ := hsb s hs
  refine r_iload_n 1 rfl 3 dX9_tellOfSource_0 rfl rfl ?_
  refine r_tabIn 64 dX9_tellOfSource_1 (by decide) (by decide) rfl rfl ?_
  refine r_aload_n 65 rfl 0 dX9_tellOfSource_64 rfl rfl ?_
  refine r_getf (v := .ref 7) (k := 3) 68 rfl dX9_tellOfSource_65 (gf_X9_32_9 rfl) rfl rfl ?_
  refine r_getf (v := .ref 8) (k := 1) 71 rfl dX9_tellOfSource_68 (gf_X9_163_5 rfl) rfl rfl ?_
  refine r_iload_n 72 rfl 2 dX9_tellOfSource_71 rfl rfl ?_
  refine r_zald (f := m 8) 73 rfl s dX9_tellOfSource_72 (by decide) rfl rfl (by omega) (by decide) ?_
  rw [show (m 8) s = nI (D 5 s) from b1]
  refine q_S 76 0 0 rfl [.int (nI (D 5 s))] rfl dX9_tellOfSource_73 cl_X9_tellOfSource__X9_bit (lk_X9_167 rfl) st_X9_bit (Nat.le_of_ble_eq_true rfl) (fun _ _ => Nat.le_of_ble_eq_true rfl) rfl rfl (Nat.le_of_ble_eq_true rfl) (Nat.le_of_ble_eq_true rfl) ?_
  refine c_bit b2 (k_i ?_)
  refine r_ireturn rfl dX9_tellOfSource_76 (Nat.le_of_ble_eq_true rfl) (Nat.le_of_ble_eq_true rfl) ?_
  exact k

set_option maxHeartbeats 4000000 in
set_option maxRecDepth 20000 in
theorem c_tos_5 {Q : am_P} {z : am_Z} {m : Nat → Nat → Int32} {n : Nat} {D : Nat → Nat → Nat} (hC : C9 z m D){s : Nat} (hs : s < D 7 1) {q : Nat} (hzr : z.2.1 s = some q) (k : Q (some (.int (nI (D 6 s)))) (wd z m) n) : AW mX9_tellOfSource Q 0 (am_ent (am_l mX9_tellOfSource) [.ref 1, .ref q, .int (nI s), .int 5]) [] (wd z m) n 0 0 := by
  show AW _ _ 0 [some (.ref 1), some (.ref q), some (.int (nI s)), some (.int 5)] [] _ _ 0 0
  obtain ⟨hg, hfd, hf3, hf0, hns, hn6, hsd, hsb, hwi, hw4, hfr, hr1, hhr, hh⟩ := id hC
  obtain ⟨q', hzr', hq, hz, hkd, hpa, hce, hsg1, hsg⟩ := hsd s hs
  obtain rfl : q = q' := Option.some.inj (hzr.symm.trans hzr')
  obtain ⟨b1, b2, b3, b4⟩ := hsb s hs
  refine r_iload_n 1 rfl 3 dX9_tellOfSource_0 rfl rfl ?_
  refine r_tabIn 77 dX9_tellOfSource_1 (by decide) (by decide) rfl rfl ?_
  refine r_aload_n 78 rfl 0 dX9_tellOfSource_77 rfl rfl ?_
  refine r_getf (v := .ref 7) (k := 3) 81 rfl dX9_tellOfSource_78 (gf_X9_32_9 rfl) rfl rfl ?_
  refine r_getf (v := .ref 9) (k := 2) 84 rfl dX9_tellOfSource_81 (gf_X9_143_5 rfl) rfl rfl ?_
  refine r_iload_n 85 rfl 2 dX9_tellOfSource_84 rfl rfl ?_
  refine r_iald (f := m 9) 86 rfl s dX9_tellOfSource_85 rfl rfl (by omega) (by decide) ?_
  rw [show (m 9) s = nI (D 6 s) from b3]
  refine r_ireturn rfl dX9_tellOfSource_86 (Nat.le_of_ble_eq_true rfl) (Nat.le_of_ble_eq_true rfl) ?_
  exact k

set_option maxHeartbeats 4000000 in
set_option maxRecDepth 20000 in
theorem c_tos_6 {Q : am_P} {z : am_Z} {m : Nat → Nat → Int32} {n : Nat} {D : Nat → Nat → Nat} (hC : C9 z m D){s : Nat} (hs : s < D 7 1) {q : Nat} (hzr : z.2.1 s = some q) (k : Q (some (.int (nI (so_fo (D 1 s) (D 4 s) (D 6 s))))) (wd z m) n) : AW mX9_tellOfSource Q 0 (am_ent (am_l mX9_tellOfSource) [.ref 1, .ref q, .int (nI s), .int 6]) [] (wd z m) n 0 0 := by
  show AW _ _ 0 [some (.ref 1), some (.ref q), some (.int (nI s)), some (.int 6)] [] _ _ 0 0
  obtain ⟨hg, hfd, hf3, hf0, hns, hn6, hsd, hsb, hwi, hw4, hfr, hr1, hhr, hh⟩ := id hC
  obtain ⟨q', hzr', hq, hz, hkd, hpa, hce, hsg1, hsg⟩ := hsd s hs
  obtain rfl : q = q' := Option.some.inj (hzr.symm.trans hzr')
  obtain ⟨b1, b2, b3, b4⟩ := hsb s hs
  refine r_iload_n 1 rfl 3 dX9_tellOfSource_0 rfl rfl ?_
  refine r_tabIn 87 dX9_tellOfSource_1 (by decide) (by decide) rfl rfl ?_
  refine r_aload_n 88 rfl 1 dX9_tellOfSource_87 rfl rfl ?_
  refine r_aload_n 89 rfl 0 dX9_tellOfSource_88 rfl rfl ?_
  refine r_getf (v := .ref 7) (k := 3) 92 rfl dX9_tellOfSource_89 (gf_X9_32_9 rfl) rfl rfl ?_
  refine r_getf (v := .ref 9) (k := 2) 95 rfl dX9_tellOfSource_92 (gf_X9_143_5 rfl) rfl rfl ?_
  refine r_iload_n 96 rfl 2 dX9_tellOfSource_95 rfl rfl ?_
  refine r_iald (f := m 9) 97 rfl s dX9_tellOfSource_96 rfl rfl (by omega) (by decide) ?_
  rw [show (m 9) s = nI (D 6 s) from b3]
  refine v_X9_tellOfSource_97 hq hz hkd hsg b4 (Nat.le_of_ble_eq_true rfl) ?_
  refine r_ireturn rfl dX9_tellOfSource_100 (Nat.le_of_ble_eq_true rfl) (Nat.le_of_ble_eq_true rfl) ?_
  exact k

set_option maxHeartbeats 4000000 in
set_option maxRecDepth 20000 in
theorem c_tos_7 {Q : am_P} {z : am_Z} {m : Nat → Nat → Int32} {n : Nat} {D : Nat → Nat → Nat} (hC : C9 z m D){s : Nat} (hs : s < D 7 1) {q : Nat} (hzr : z.2.1 s = some q) (k : Q (some (.int (nI (SM D s)))) (wd z m) n) : AW mX9_tellOfSource Q 0 (am_ent (am_l mX9_tellOfSource) [.ref 1, .ref q, .int (nI s), .int 7]) [] (wd z m) n 0 0 := by
  show AW _ _ 0 [some (.ref 1), some (.ref q), some (.int (nI s)), some (.int 7)] [] _ _ 0 0
  obtain ⟨hg, hfd, hf3, hf0, hns, hn6, hsd, hsb, hwi, hw4, hfr, hr1, hhr, hh⟩ := id hC
  obtain ⟨q', hzr', hq, hz, hkd, hpa, hce, hsg1, hsg⟩ := hsd s hs
  obtain rfl : q = q' := Option.some.inj (hzr.symm.trans hzr')
  obtain ⟨b1, b2, b3, b4⟩ := hsb s hs
  refine r_iload_n 1 rfl 3 dX9_tellOfSource_0 rfl rfl ?_
  refine r_tabOut 101 dX9_tellOfSource_1 (by decide) rfl ?_
  refine r_aload_n 102 rfl 0 dX9_tellOfSource_101 rfl rfl ?_
  refine r_getf (v := .ref 7) (k := 3) 105 rfl dX9_tellOfSource_102 (gf_X9_32_9 rfl) rfl rfl ?_
  refine r_aload_n 106 rfl 1 dX9_tellOfSource_105 rfl rfl ?_
  refine r_iload_n 107 rfl 2 dX9_tellOfSource_106 rfl rfl ?_
  refine q_V 110 0 0 rfl [.ref q, .int (nI s)] rfl dX9_tellOfSource_107 cl_X9_tellOfSource__X5_smells (lk_X9_136 rfl) im_X5_smells (ci := 5) rfl sl_X5__X5_smells rfl (Nat.le_of_ble_eq_true rfl) (fun _ _ => Nat.le_of_ble_eq_true rfl) rfl rfl (Nat.le_of_ble_eq_true rfl) (Nat.le_of_ble_eq_true rfl) ?_
  refine c_sm7 hC hs hzr (k_i ?_)
  refine q_S 113 0 0 rfl [.int (nI (SM D s))] rfl dX9_tellOfSource_110 cl_X9_tellOfSource__X9_bit (lk_X9_167 rfl) st_X9_bit (Nat.le_of_ble_eq_true rfl) (fun _ _ => Nat.le_of_ble_eq_true rfl) rfl rfl (Nat.le_of_ble_eq_true rfl) (Nat.le_of_ble_eq_true rfl) ?_
  refine c_bit (SM_le D s) (k_i ?_)
  refine r_ireturn rfl dX9_tellOfSource_113 (Nat.le_of_ble_eq_true rfl) (Nat.le_of_ble_eq_true rfl) ?_
  exact k

theorem c_tos {Q : am_P} {z : am_Z} {m : Nat → Nat → Int32} {n : Nat} {D : Nat → Nat → Nat} (hC : C9 z m D) {s : Nat} (hs : s < D 7 1) {q : Nat} (hzr : z.2.1 s = some q) {w : Nat} (hw : w < 8) (k : Q (some (.int (nI (TS D s w)))) (wd z m) n) : AW mX9_tellOfSource Q 0 (am_ent (am_l mX9_tellOfSource) [.ref 1, .ref q, .int (nI s), .int (nI w)]) [] (wd z m) n 0 0 := by
  rcases (show w = 0 ∨ w = 1 ∨ w = 2 ∨ w = 3 ∨ w = 4 ∨ w = 5 ∨ w = 6 ∨ w = 7 by omega) with rfl | rfl | rfl | rfl | rfl | rfl | rfl | rfl
  · exact c_tos_0 hC hs hzr k
  · exact c_tos_1 hC hs hzr k
  · exact c_tos_2 hC hs hzr k
  · exact c_tos_3 hC hs hzr k
  · exact c_tos_4 hC hs hzr k
  · exact c_tos_5 hC hs hzr k
  · exact c_tos_6 hC hs hzr k
  · exact c_tos_7 hC hs hzr k

set_option maxHeartbeats 4000000 in
set_option maxRecDepth 20000 in
theorem c_tel_0 {Q : am_P} {z : am_Z} {m : Nat → Nat → Int32} {n : Nat} {D : Nat → Nat → Nat} (hC : C10 m D){s : Nat} (hs : s < D 7 1) (k : Q (some (.int (nI (D 1 s)))) (wd z m) n) : AW mX10_tell Q 0 (am_ent (am_l mX10_tell) [.ref 37, .int (nI s), .int 0]) [] (wd z m) n 0 0 := by
  show AW _ _ 0 [some (.ref 37), some (.int (nI s)), some (.int 0)] [] _ _ 0 0
  obtain ⟨hg, hfd, hf3, hf0, hns, hn7, hmr, hwi, hw4, hfr, hr1, hhr, hh⟩ := id hC
  obtain ⟨⟨e0, e1, e2, e3, e4, e5⟩, q1, q2, q3, q4, q5, q6⟩ := hmr s hs
  refine r_iload_n 1 rfl 2 dX10_tell_0 rfl rfl ?_
  refine r_i2l 2 rfl dX10_tell_1 ?_
  refine r_ldc2 5 rfl 10 dX10_tell_2 (cn_X10_161 rfl) ?_
  refine r_ldc2 8 rfl 17 dX10_tell_5 (cn_X10_163 rfl) ?_
  refine q_S 11 0 0 rfl [.long ((0 : Int32).toInt64), .long 10, .long 17] rfl dX10_tell_8 cl_X10_tell__X10_in (lk_X10_64 rfl) st_X10_in (Nat.le_of_ble_eq_true rfl) (fun _ _ => Nat.le_of_ble_eq_true rfl) rfl rfl (Nat.le_of_ble_eq_true rfl) (Nat.le_of_ble_eq_true rfl) ?_
  refine c_in_f (by decide) (k_i ?_)
  refine r_if_eq 14 29 rfl dX10_tell_11 rfl (fun _ => ?_) (fun q__ => absurd (by decide) q__)
  refine r_iload_n 30 rfl 2 dX10_tell_29 rfl rfl ?_
  refine r_i2l 31 rfl dX10_tell_30 ?_
  refine r_lconst 32 rfl 0 dX10_tell_31 rfl ?_
  refine r_ldc2 35 rfl 5 dX10_tell_32 (cn_X10_165 rfl) ?_
  refine q_S 38 0 0 rfl [.long ((0 : Int32).toInt64), .long 0, .long 5] rfl dX10_tell_35 cl_X10_tell__X10_in (lk_X10_64 rfl) st_X10_in (Nat.le_of_ble_eq_true rfl) (fun _ _ => Nat.le_of_ble_eq_true rfl) rfl rfl (Nat.le_of_ble_eq_true rfl) (Nat.le_of_ble_eq_true rfl) ?_
  refine c_in_t (by decide) (by decide) (k_i ?_)
  refine r_if_eq 41 53 rfl dX10_tell_38 rfl (fun q__ => absurd q__ (by decide)) (fun _ => ?_)
  refine r_aload_n 42 rfl 0 dX10_tell_41 rfl rfl ?_
  refine r_getf (v := .ref 42) (k := 11) 45 rfl dX10_tell_42 (gf_X10_22_10 rfl) rfl rfl ?_
  refine r_bipush 47 rfl 6 dX10_tell_45 (by decide) ?_
  refine r_iload_n 48 rfl 1 dX10_tell_47 rfl rfl ?_
  refine r_imul 49 rfl dX10_tell_48 ?_
  rw [show 6 * (nI s) = nI (6 * s) from pk_mul 6 s]
  refine r_iload_n 50 rfl 2 dX10_tell_49 rfl rfl ?_
  refine r_iadd 51 rfl dX10_tell_50 ?_
  rw [show (nI (6 * s)) + 0 = nI ((6 * s) + 0) from nI_add (6 * s) 0]
  refine r_iald (f := m 42) 52 rfl ((6 * s) + 0) dX10_tell_51 rfl rfl (by omega) (by decide) ?_
  rw [show (m 42) ((6 * s) + 0) = nI (D 1 s) from e0]
  refine r_ireturn rfl dX10_tell_52 (Nat.le_of_ble_eq_true rfl) (Nat.le_of_ble_eq_true rfl) ?_
  exact k

set_option maxHeartbeats 4000000 in
set_option maxRecDepth 20000 in
theorem c_tel_1 {Q : am_P} {z : am_Z} {m : Nat → Nat → Int32} {n : Nat} {D : Nat → Nat → Nat} (hC : C10 m D){s : Nat} (hs : s < D 7 1) (k : Q (some (.int (nI (D 2 s)))) (wd z m) n) : AW mX10_tell Q 0 (am_ent (am_l mX10_tell) [.ref 37, .int (nI s), .int 1]) [] (wd z m) n 0 0 := by
  show AW _ _ 0 [some (.ref 37), some (.int (nI s)), some (.int 1)] [] _ _ 0 0
  obtain ⟨hg, hfd, hf3, hf0, hns, hn7, hmr, hwi, hw4, hfr, hr1, hhr, hh⟩ := id hC
  obtain ⟨⟨e0, e1, e2, e3, e4, e5⟩, q1, q2, q3, q4, q5, q6⟩ := hmr s hs
  refine r_iload_n 1 rfl 2 dX10_tell_0 rfl rfl ?_
  refine r_i2l 2 rfl dX10_tell_1 ?_
  refine r_ldc2 5 rfl 10 dX10_tell_2 (cn_X10_161 rfl) ?_
  refine r_ldc2 8 rfl 17 dX10_tell_5 (cn_X10_163 rfl) ?_
  refine q_S 11 0 0 rfl [.long ((1 : Int32).toInt64), .long 10, .long 17] rfl dX10_tell_8 cl_X10_tell__X10_in (lk_X10_64 rfl) st_X10_in (Nat.le_of_ble_eq_true rfl) (fun _ _ => Nat.le_of_ble_eq_true rfl) rfl rfl (Nat.le_of_ble_eq_true rfl) (Nat.le_of_ble_eq_true rfl) ?_
  refine c_in_f (by decide) (k_i ?_)
  refine r_if_eq 14 29 rfl dX10_tell_11 rfl (fun _ => ?_) (fun q__ => absurd (by decide) q__)
  refine r_iload_n 30 rfl 2 dX10_tell_29 rfl rfl ?_
  refine r_i2l 31 rfl dX10_tell_30 ?_
  refine r_lconst 32 rfl 0 dX10_tell_31 rfl ?_
  refine r_ldc2 35 rfl 5 dX10_tell_32 (cn_X10_165 rfl) ?_
  refine q_S 38 0 0 rfl [.long ((1 : Int32).toInt64), .long 0, .long 5] rfl dX10_tell_35 cl_X10_tell__X10_in (lk_X10_64 rfl) st_X10_in (Nat.le_of_ble_eq_true rfl) (fun _ _ => Nat.le_of_ble_eq_true rfl) rfl rfl (Nat.le_of_ble_eq_true rfl) (Nat.le_of_ble_eq_true rfl) ?_
  refine c_in_t (by decide) (by decide) (k_i ?_)
  refine r_if_eq 41 53 rfl dX10_tell_38 rfl (fun q__ => absurd q__ (by decide)) (fun _ => ?_)
  refine r_aload_n 42 rfl 0 dX10_tell_41 rfl rfl ?_
  refine r_getf (v := .ref 42) (k := 11) 45 rfl dX10_tell_42 (gf_X10_22_10 rfl) rfl rfl ?_
  refine r_bipush 47 rfl 6 dX10_tell_45 (by decide) ?_
  refine r_iload_n 48 rfl 1 dX10_tell_47 rfl rfl ?_
  refine r_imul 49 rfl dX10_tell_48 ?_
  rw [show 6 * (nI s) = nI (6 * s) from pk_mul 6 s]
  refine r_iload_n 50 rfl 2 dX10_tell_49 rfl rfl ?_
  refine r_iadd 51 rfl dX10_tell_50 ?_
  rw [show (nI (6 * s)) + 1 = nI ((6 * s) + 1) from nI_add (6 * s) 1]
  refine r_iald (f := m 42) 52 rfl ((6 * s) + 1) dX10_tell_51 rfl rfl (by omega) (by decide) ?_
  rw [show (m 42) ((6 * s) + 1) = nI (D 2 s) from e1]
  refine r_ireturn rfl dX10_tell_52 (Nat.le_of_ble_eq_true rfl) (Nat.le_of_ble_eq_true rfl) ?_
  exact k

set_option maxHeartbeats 4000000 in
set_option maxRecDepth 20000 in
theorem c_tel_2 {Q : am_P} {z : am_Z} {m : Nat → Nat → Int32} {n : Nat} {D : Nat → Nat → Nat} (hC : C10 m D){s : Nat} (hs : s < D 7 1) (k : Q (some (.int (nI (D 3 s)))) (wd z m) n) : AW mX10_tell Q 0 (am_ent (am_l mX10_tell) [.ref 37, .int (nI s), .int 2]) [] (wd z m) n 0 0 := by
  show AW _ _ 0 [some (.ref 37), some (.int (nI s)), some (.int 2)] [] _ _ 0 0
  obtain ⟨hg, hfd, hf3, hf0, hns, hn7, hmr, hwi, hw4, hfr, hr1, hhr, hh⟩ := id hC
  obtain ⟨⟨e0, e1, e2, e3, e4, e5⟩, q1, q2, q3, q4, q5, q6⟩ := hmr s hs
  refine r_iload_n 1 rfl 2 dX10_tell_0 rfl rfl ?_
  refine r_i2l 2 rfl dX10_tell_1 ?_
  refine r_ldc2 5 rfl 10 dX10_tell_2 (cn_X10_161 rfl) ?_
  refine r_ldc2 8 rfl 17 dX10_tell_5 (cn_X10_163 rfl) ?_
  refine q_S 11 0 0 rfl [.long ((2 : Int32).toInt64), .long 10, .long 17] rfl dX10_tell_8 cl_X10_tell__X10_in (lk_X10_64 rfl) st_X10_in (Nat.le_of_ble_eq_true rfl) (fun _ _ => Nat.le_of_ble_eq_true rfl) rfl rfl (Nat.le_of_ble_eq_true rfl) (Nat.le_of_ble_eq_true rfl) ?_
  refine c_in_f (by decide) (k_i ?_)
  refine r_if_eq 14 29 rfl dX10_tell_11 rfl (fun _ => ?_) (fun q__ => absurd (by decide) q__)
  refine r_iload_n 30 rfl 2 dX10_tell_29 rfl rfl ?_
  refine r_i2l 31 rfl dX10_tell_30 ?_
  refine r_lconst 32 rfl 0 dX10_tell_31 rfl ?_
  refine r_ldc2 35 rfl 5 dX10_tell_32 (cn_X10_165 rfl) ?_
  refine q_S 38 0 0 rfl [.long ((2 : Int32).toInt64), .long 0, .long 5] rfl dX10_tell_35 cl_X10_tell__X10_in (lk_X10_64 rfl) st_X10_in (Nat.le_of_ble_eq_true rfl) (fun _ _ => Nat.le_of_ble_eq_true rfl) rfl rfl (Nat.le_of_ble_eq_true rfl) (Nat.le_of_ble_eq_true rfl) ?_
  refine c_in_t (by decide) (by decide) (k_i ?_)
  refine r_if_eq 41 53 rfl dX10_tell_38 rfl (fun q__ => absurd q__ (by decide)) (fun _ => ?_)
  refine r_aload_n 42 rfl 0 dX10_tell_41 rfl rfl ?_
  refine r_getf (v := .ref 42) (k := 11) 45 rfl dX10_tell_42 (gf_X10_22_10 rfl) rfl rfl ?_
  refine r_bipush 47 rfl 6 dX10_tell_45 (by decide) ?_
  refine r_iload_n 48 rfl 1 dX10_tell_47 rfl rfl ?_
  refine r_imul 49 rfl dX10_tell_48 ?_
  rw [show 6 * (nI s) = nI (6 * s) from pk_mul 6 s]
  refine r_iload_n 50 rfl 2 dX10_tell_49 rfl rfl ?_
  refine r_iadd 51 rfl dX10_tell_50 ?_
  rw [show (nI (6 * s)) + 2 = nI ((6 * s) + 2) from nI_add (6 * s) 2]
  refine r_iald (f := m 42) 52 rfl ((6 * s) + 2) dX10_tell_51 rfl rfl (by omega) (by decide) ?_
  rw [show (m 42) ((6 * s) + 2) = nI (D 3 s) from e2]
  refine r_ireturn rfl dX10_tell_52 (Nat.le_of_ble_eq_true rfl) (Nat.le_of_ble_eq_true rfl) ?_
  exact k

set_option maxHeartbeats 4000000 in
set_option maxRecDepth 20000 in
theorem c_tel_3 {Q : am_P} {z : am_Z} {m : Nat → Nat → Int32} {n : Nat} {D : Nat → Nat → Nat} (hC : C10 m D){s : Nat} (hs : s < D 7 1) (k : Q (some (.int (nI (D 4 s)))) (wd z m) n) : AW mX10_tell Q 0 (am_ent (am_l mX10_tell) [.ref 37, .int (nI s), .int 3]) [] (wd z m) n 0 0 := by
  show AW _ _ 0 [some (.ref 37), some (.int (nI s)), some (.int 3)] [] _ _ 0 0
  obtain ⟨hg, hfd, hf3, hf0, hns, hn7, hmr, hwi, hw4, hfr, hr1, hhr, hh⟩ := id hC
  obtain ⟨⟨e0, e1, e2, e3, e4, e5⟩, q1, q2, q3, q4, q5, q6⟩ := hmr s hs
  refine r_iload_n 1 rfl 2 dX10_tell_0 rfl rfl ?_
  refine r_i2l 2 rfl dX10_tell_1 ?_
  refine r_ldc2 5 rfl 10 dX10_tell_2 (cn_X10_161 rfl) ?_
  refine r_ldc2 8 rfl 17 dX10_tell_5 (cn_X10_163 rfl) ?_
  refine q_S 11 0 0 rfl [.long ((3 : Int32).toInt64), .long 10, .long 17] rfl dX10_tell_8 cl_X10_tell__X10_in (lk_X10_64 rfl) st_X10_in (Nat.le_of_ble_eq_true rfl) (fun _ _ => Nat.le_of_ble_eq_true rfl) rfl rfl (Nat.le_of_ble_eq_true rfl) (Nat.le_of_ble_eq_true rfl) ?_
  refine c_in_f (by decide) (k_i ?_)
  refine r_if_eq 14 29 rfl dX10_tell_11 rfl (fun _ => ?_) (fun q__ => absurd (by decide) q__)
  refine r_iload_n 30 rfl 2 dX10_tell_29 rfl rfl ?_
  refine r_i2l 31 rfl dX10_tell_30 ?_
  refine r_lconst 32 rfl 0 dX10_tell_31 rfl ?_
  refine r_ldc2 35 rfl 5 dX10_tell_32 (cn_X10_165 rfl) ?_
  refine q_S 38 0 0 rfl [.long ((3 : Int32).toInt64), .long 0, .long 5] rfl dX10_tell_35 cl_X10_tell__X10_in (lk_X10_64 rfl) st_X10_in (Nat.le_of_ble_eq_true rfl) (fun _ _ => Nat.le_of_ble_eq_true rfl) rfl rfl (Nat.le_of_ble_eq_true rfl) (Nat.le_of_ble_eq_true rfl) ?_
  refine c_in_t (by decide) (by decide) (k_i ?_)
  refine r_if_eq 41 53 rfl dX10_tell_38 rfl (fun q__ => absurd q__ (by decide)) (fun _ => ?_)
  refine r_aload_n 42 rfl 0 dX10_tell_41 rfl rfl ?_
  refine r_getf (v := .ref 42) (k := 11) 45 rfl dX10_tell_42 (gf_X10_22_10 rfl) rfl rfl ?_
  refine r_bipush 47 rfl 6 dX10_tell_45 (by decide) ?_
  refine r_iload_n 48 rfl 1 dX10_tell_47 rfl rfl ?_
  refine r_imul 49 rfl dX10_tell_48 ?_
  rw [show 6 * (nI s) = nI (6 * s) from pk_mul 6 s]
  refine r_iload_n 50 rfl 2 dX10_tell_49 rfl rfl ?_
  refine r_iadd 51 rfl dX10_tell_50 ?_
  rw [show (nI (6 * s)) + 3 = nI ((6 * s) + 3) from nI_add (6 * s) 3]
  refine r_iald (f := m 42) 52 rfl ((6 * s) + 3) dX10_tell_51 rfl rfl (by omega) (by decide) ?_
  rw [show (m 42) ((6 * s) + 3) = nI (D 4 s) from e3]
  refine r_ireturn rfl dX10_tell_52 (Nat.le_of_ble_eq_true rfl) (Nat.le_of_ble_eq_true rfl) ?_
  exact k

set_option maxHeartbeats 4000000 in
set_option maxRecDepth 20000 in
theorem c_tel_4 {Q : am_P} {z : am_Z} {m : Nat → Nat → Int32} {n : Nat} {D : Nat → Nat → Nat} (hC : C10 m D){s : Nat} (hs : s < D 7 1) (k : Q (some (.int (nI (D 5 s)))) (wd z m) n) : AW mX10_tell Q 0 (am_ent (am_l mX10_tell) [.ref 37, .int (nI s), .int 4]) [] (wd z m) n 0 0 := by
  show AW _ _ 0 [some (.ref 37), some (.int (nI s)), some (.int 4)] [] _ _ 0 0
  obtain ⟨hg, hfd, hf3, hf0, hns, hn7, hmr, hwi, hw4, hfr, hr1, hhr, hh⟩ := id hC
  obtain ⟨⟨e0, e1, e2, e3, e4, e5⟩, q1, q2, q3, q4, q5, q6⟩ := hmr s hs
  refine r_iload_n 1 rfl 2 dX10_tell_0 rfl rfl ?_
  refine r_i2l 2 rfl dX10_tell_1 ?_
  refine r_ldc2 5 rfl 10 dX10_tell_2 (cn_X10_161 rfl) ?_
  refine r_ldc2 8 rfl 17 dX10_tell_5 (cn_X10_163 rfl) ?_
  refine q_S 11 0 0 rfl [.long ((4 : Int32).toInt64), .long 10, .long 17] rfl dX10_tell_8 cl_X10_tell__X10_in (lk_X10_64 rfl) st_X10_in (Nat.le_of_ble_eq_true rfl) (fun _ _ => Nat.le_of_ble_eq_true rfl) rfl rfl (Nat.le_of_ble_eq_true rfl) (Nat.le_of_ble_eq_true rfl) ?_
  refine c_in_f (by decide) (k_i ?_)
  refine r_if_eq 14 29 rfl dX10_tell_11 rfl (fun _ => ?_) (fun q__ => absurd (by decide) q__)
  refine r_iload_n 30 rfl 2 dX10_tell_29 rfl rfl ?_
  refine r_i2l 31 rfl dX10_tell_30 ?_
  refine r_lconst 32 rfl 0 dX10_tell_31 rfl ?_
  refine r_ldc2 35 rfl 5 dX10_tell_32 (cn_X10_165 rfl) ?_
  refine q_S 38 0 0 rfl [.long ((4 : Int32).toInt64), .long 0, .long 5] rfl dX10_tell_35 cl_X10_tell__X10_in (lk_X10_64 rfl) st_X10_in (Nat.le_of_ble_eq_true rfl) (fun _ _ => Nat.le_of_ble_eq_true rfl) rfl rfl (Nat.le_of_ble_eq_true rfl) (Nat.le_of_ble_eq_true rfl) ?_
  refine c_in_t (by decide) (by decide) (k_i ?_)
  refine r_if_eq 41 53 rfl dX10_tell_38 rfl (fun q__ => absurd q__ (by decide)) (fun _ => ?_)
  refine r_aload_n 42 rfl 0 dX10_tell_41 rfl rfl ?_
  refine r_getf (v := .ref 42) (k := 11) 45 rfl dX10_tell_42 (gf_X10_22_10 rfl) rfl rfl ?_
  refine r_bipush 47 rfl 6 dX10_tell_45 (by decide) ?_
  refine r_iload_n 48 rfl 1 dX10_tell_47 rfl rfl ?_
  refine r_imul 49 rfl dX10_tell_48 ?_
  rw [show 6 * (nI s) = nI (6 * s) from pk_mul 6 s]
  refine r_iload_n 50 rfl 2 dX10_tell_49 rfl rfl ?_
  refine r_iadd 51 rfl dX10_tell_50 ?_
  rw [show (nI (6 * s)) + 4 = nI ((6 * s) + 4) from nI_add (6 * s) 4]
  refine r_iald (f := m 42) 52 rfl ((6 * s) + 4) dX10_tell_51 rfl rfl (by omega) (by decide) ?_
  rw [show (m 42) ((6 * s) + 4) = nI (D 5 s) from e4]
  refine r_ireturn rfl dX10_tell_52 (Nat.le_of_ble_eq_true rfl) (Nat.le_of_ble_eq_true rfl) ?_
  exact k

set_option maxHeartbeats 4000000 in
set_option maxRecDepth 20000 in
theorem c_tel_5 {Q : am_P} {z : am_Z} {m : Nat → Nat → Int32} {n : Nat} {D : Nat → Nat → Nat} (hC : C10 m D){s : Nat} (hs : s < D 7 1) (k : Q (some (.int (nI (D 6 s)))) (wd z m) n) : AW mX10_tell Q 0 (am_ent (am_l mX10_tell) [.ref 37, .int (nI s), .int 5]) [] (wd z m) n 0 0 := by
  show AW _ _ 0 [some (.ref 37), some (.int (nI s)), some (.int 5)] [] _ _ 0 0
  obtain ⟨hg, hfd, hf3, hf0, hns, hn7, hmr, hwi, hw4, hfr, hr1, hhr, hh⟩ := id hC
  obtain ⟨⟨e0, e1, e2, e3, e4, e5⟩, q1, q2, q3, q4, q5, q6⟩ := hmr s hs
  refine r_iload_n 1 rfl 2 dX10_tell_0 rfl rfl ?_
  refine r_i2l 2 rfl dX10_tell_1 ?_
  refine r_ldc2 5 rfl 10 dX10_tell_2 (cn_X10_161 rfl) ?_
  refine r_ldc2 8 rfl 17 dX10_tell_5 (cn_X10_163 rfl) ?_
  refine q_S 11 0 0 rfl [.long ((5 : Int32).toInt64), .long 10, .long 17] rfl dX10_tell_8 cl_X10_tell__X10_in (lk_X10_64 rfl) st_X10_in (Nat.le_of_ble_eq_true rfl) (fun _ _ => Nat.le_of_ble_eq_true rfl) rfl rfl (Nat.le_of_ble_eq_true rfl) (Nat.le_of_ble_eq_true rfl) ?_
  refine c_in_f (by decide) (k_i ?_)
  refine r_if_eq 14 29 rfl dX10_tell_11 rfl (fun _ => ?_) (fun q__ => absurd (by decide) q__)
  refine r_iload_n 30 rfl 2 dX10_tell_29 rfl rfl ?_
  refine r_i2l 31 rfl dX10_tell_30 ?_
  refine r_lconst 32 rfl 0 dX10_tell_31 rfl ?_
  refine r_ldc2 35 rfl 5 dX10_tell_32 (cn_X10_165 rfl) ?_
  refine q_S 38 0 0 rfl [.long ((5 : Int32).toInt64), .long 0, .long 5] rfl dX10_tell_35 cl_X10_tell__X10_in (lk_X10_64 rfl) st_X10_in (Nat.le_of_ble_eq_true rfl) (fun _ _ => Nat.le_of_ble_eq_true rfl) rfl rfl (Nat.le_of_ble_eq_true rfl) (Nat.le_of_ble_eq_true rfl) ?_
  refine c_in_t (by decide) (by decide) (k_i ?_)
  refine r_if_eq 41 53 rfl dX10_tell_38 rfl (fun q__ => absurd q__ (by decide)) (fun _ => ?_)
  refine r_aload_n 42 rfl 0 dX10_tell_41 rfl rfl ?_
  refine r_getf (v := .ref 42) (k := 11) 45 rfl dX10_tell_42 (gf_X10_22_10 rfl) rfl rfl ?_
  refine r_bipush 47 rfl 6 dX10_tell_45 (by decide) ?_
  refine r_iload_n 48 rfl 1 dX10_tell_47 rfl rfl ?_
  refine r_imul 49 rfl dX10_tell_48 ?_
  rw [show 6 * (nI s) = nI (6 * s) from pk_mul 6 s]
  refine r_iload_n 50 rfl 2 dX10_tell_49 rfl rfl ?_
  refine r_iadd 51 rfl dX10_tell_50 ?_
  rw [show (nI (6 * s)) + 5 = nI ((6 * s) + 5) from nI_add (6 * s) 5]
  refine r_iald (f := m 42) 52 rfl ((6 * s) + 5) dX10_tell_51 rfl rfl (by omega) (by decide) ?_
  rw [show (m 42) ((6 * s) + 5) = nI (D 6 s) from e5]
  refine r_ireturn rfl dX10_tell_52 (Nat.le_of_ble_eq_true rfl) (Nat.le_of_ble_eq_true rfl) ?_
  exact k

set_option maxHeartbeats 4000000 in
set_option maxRecDepth 20000 in
theorem c_tel_6 {Q : am_P} {z : am_Z} {m : Nat → Nat → Int32} {n : Nat} {D : Nat → Nat → Nat} (hC : C10 m D){s : Nat} (hs : s < D 7 1) (k : Q (some (.int (nI (so_fo (D 1 s) (D 4 s) (D 6 s))))) (wd z m) n) : AW mX10_tell Q 0 (am_ent (am_l mX10_tell) [.ref 37, .int (nI s), .int 6]) [] (wd z m) n 0 0 := by
  show AW _ _ 0 [some (.ref 37), some (.int (nI s)), some (.int 6)] [] _ _ 0 0
  obtain ⟨hg, hfd, hf3, hf0, hns, hn7, hmr, hwi, hw4, hfr, hr1, hhr, hh⟩ := id hC
  obtain ⟨⟨e0, e1, e2, e3, e4, e5⟩, q1, q2, q3, q4, q5, q6⟩ := hmr s hs
  refine r_iload_n 1 rfl 2 dX10_tell_0 rfl rfl ?_
  refine r_i2l 2 rfl dX10_tell_1 ?_
  refine r_ldc2 5 rfl 10 dX10_tell_2 (cn_X10_161 rfl) ?_
  refine r_ldc2 8 rfl 17 dX10_tell_5 (cn_X10_163 rfl) ?_
  refine q_S 11 0 0 rfl [.long ((6 : Int32).toInt64), .long 10, .long 17] rfl dX10_tell_8 cl_X10_tell__X10_in (lk_X10_64 rfl) st_X10_in (Nat.le_of_ble_eq_true rfl) (fun _ _ => Nat.le_of_ble_eq_true rfl) rfl rfl (Nat.le_of_ble_eq_true rfl) (Nat.le_of_ble_eq_true rfl) ?_
  refine c_in_f (by decide) (k_i ?_)
  refine r_if_eq 14 29 rfl dX10_tell_11 rfl (fun _ => ?_) (fun q__ => absurd (by decide) q__)
  refine r_iload_n 30 rfl 2 dX10_tell_29 rfl rfl ?_
  refine r_i2l 31 rfl dX10_tell_30 ?_
  refine r_lconst 32 rfl 0 dX10_tell_31 rfl ?_
  refine r_ldc2 35 rfl 5 dX10_tell_32 (cn_X10_165 rfl) ?_
  refine q_S 38 0 0 rfl [.long ((6 : Int32).toInt64), .long 0, .long 5] rfl dX10_tell_35 cl_X10_tell__X10_in (lk_X10_64 rfl) st_X10_in (Nat.le_of_ble_eq_true rfl) (fun _ _ => Nat.le_of_ble_eq_true rfl) rfl rfl (Nat.le_of_ble_eq_true rfl) (Nat.le_of_ble_eq_true rfl) ?_
  refine c_in_f (by decide) (k_i ?_)
  refine r_if_eq 41 53 rfl dX10_tell_38 rfl (fun _ => ?_) (fun q__ => absurd (by decide) q__)
  refine r_iload_n 54 rfl 2 dX10_tell_53 rfl rfl ?_
  refine r_bipush 56 rfl 6 dX10_tell_54 (by decide) ?_
  refine r_icmp_ne 59 67 rfl dX10_tell_56 rfl (fun q__ => absurd (by decide) q__) (fun _ => ?_)
  refine r_aload_n 60 rfl 0 dX10_tell_59 rfl rfl ?_
  refine r_iload_n 61 rfl 1 dX10_tell_60 rfl rfl ?_
  refine q_V 64 0 0 rfl [.int (nI s)] rfl dX10_tell_61 cl_X10_tell__X10_forceOf (lk_X10_134 rfl) im_X10_forceOf (ci := 10) rfl sl_X10__X10_forceOf rfl (Nat.le_of_ble_eq_true rfl) (fun _ _ => Nat.le_of_ble_eq_true rfl) rfl rfl (Nat.le_of_ble_eq_true rfl) (Nat.le_of_ble_eq_true rfl) ?_
  refine c_X10_forceOf (by omega) e0 q1 e3 q4 e5 q6 (k_i ?_)
  refine r_goto 91 dX10_tell_64 rfl ?_
  refine r_ireturn rfl dX10_tell_91 (Nat.le_of_ble_eq_true rfl) (Nat.le_of_ble_eq_true rfl) ?_
  exact k

set_option maxHeartbeats 4000000 in
set_option maxRecDepth 20000 in
theorem c_tel_7 {Q : am_P} {z : am_Z} {m : Nat → Nat → Int32} {n : Nat} {D : Nat → Nat → Nat} (hC : C10 m D){s : Nat} (hs : s < D 7 1) (k : Q (some (.int (nI (SM D s)))) (wd z m) n) : AW mX10_tell Q 0 (am_ent (am_l mX10_tell) [.ref 37, .int (nI s), .int 7]) [] (wd z m) n 0 0 := by
  show AW _ _ 0 [some (.ref 37), some (.int (nI s)), some (.int 7)] [] _ _ 0 0
  obtain ⟨hg, hfd, hf3, hf0, hns, hn7, hmr, hwi, hw4, hfr, hr1, hhr, hh⟩ := id hC
  obtain ⟨⟨e0, e1, e2, e3, e4, e5⟩, q1, q2, q3, q4, q5, q6⟩ := hmr s hs
  refine r_iload_n 1 rfl 2 dX10_tell_0 rfl rfl ?_
  refine r_i2l 2 rfl dX10_tell_1 ?_
  refine r_ldc2 5 rfl 10 dX10_tell_2 (cn_X10_161 rfl) ?_
  refine r_ldc2 8 rfl 17 dX10_tell_5 (cn_X10_163 rfl) ?_
  refine q_S 11 0 0 rfl [.long ((7 : Int32).toInt64), .long 10, .long 17] rfl dX10_tell_8 cl_X10_tell__X10_in (lk_X10_64 rfl) st_X10_in (Nat.le_of_ble_eq_true rfl) (fun _ _ => Nat.le_of_ble_eq_true rfl) rfl rfl (Nat.le_of_ble_eq_true rfl) (Nat.le_of_ble_eq_true rfl) ?_
  refine c_in_f (by decide) (k_i ?_)
  refine r_if_eq 14 29 rfl dX10_tell_11 rfl (fun _ => ?_) (fun q__ => absurd (by decide) q__)
  refine r_iload_n 30 rfl 2 dX10_tell_29 rfl rfl ?_
  refine r_i2l 31 rfl dX10_tell_30 ?_
  refine r_lconst 32 rfl 0 dX10_tell_31 rfl ?_
  refine r_ldc2 35 rfl 5 dX10_tell_32 (cn_X10_165 rfl) ?_
  refine q_S 38 0 0 rfl [.long ((7 : Int32).toInt64), .long 0, .long 5] rfl dX10_tell_35 cl_X10_tell__X10_in (lk_X10_64 rfl) st_X10_in (Nat.le_of_ble_eq_true rfl) (fun _ _ => Nat.le_of_ble_eq_true rfl) rfl rfl (Nat.le_of_ble_eq_true rfl) (Nat.le_of_ble_eq_true rfl) ?_
  refine c_in_f (by decide) (k_i ?_)
  refine r_if_eq 41 53 rfl dX10_tell_38 rfl (fun _ => ?_) (fun q__ => absurd (by decide) q__)
  refine r_iload_n 54 rfl 2 dX10_tell_53 rfl rfl ?_
  refine r_bipush 56 rfl 6 dX10_tell_54 (by decide) ?_
  refine r_icmp_ne 59 67 rfl dX10_tell_56 rfl (fun _ => ?_) (fun q__ => absurd q__ (by decide))
  refine r_iload_n 68 rfl 2 dX10_tell_67 rfl rfl ?_
  refine r_bipush 70 rfl 7 dX10_tell_68 (by decide) ?_
  refine r_icmp_ne 73 89 rfl dX10_tell_70 rfl (fun q__ => absurd (by decide) q__) (fun _ => ?_)
  refine r_aload_n 74 rfl 0 dX10_tell_73 rfl rfl ?_
  refine r_iload_n 75 rfl 1 dX10_tell_74 rfl rfl ?_
  refine q_V 78 0 0 rfl [.int (nI s)] rfl dX10_tell_75 cl_X10_tell__X10_smells (lk_X10_131 rfl) im_X10_smells (ci := 10) rfl sl_X10__X10_smells rfl (Nat.le_of_ble_eq_true rfl) (fun _ _ => Nat.le_of_ble_eq_true rfl) rfl rfl (Nat.le_of_ble_eq_true rfl) (Nat.le_of_ble_eq_true rfl) ?_
  refine c_sm10 hC hs (k_i ?_)
  refine r_if_eq 81 85 rfl dX10_tell_78 rfl (fun c78 => ?_) (fun c78 => ?_)
  · have hs0 : SM D s = 0 := by have := SM_le D s; have := (nI_eq (a := SM D s) (b := 0) (by omega) (by omega)).mp c78; omega
    rw [hs0] at k
    refine r_iconst 86 rfl 0 dX10_tell_85 rfl ?_
    refine r_goto 91 dX10_tell_86 rfl ?_
    refine r_ireturn rfl dX10_tell_91 (Nat.le_of_ble_eq_true rfl) (Nat.le_of_ble_eq_true rfl) ?_
    exact k
  · have hs1 : SM D s = 1 := by have := SM_le D s; have : ¬ SM D s = 0 := fun h => c78 ((nI_eq (a := SM D s) (b := 0) (by omega) (by omega)).mpr h); omega
    rw [hs1] at k
    refine r_iconst 82 rfl 1 dX10_tell_81 rfl ?_
    refine r_goto 91 dX10_tell_82 rfl ?_
    refine r_ireturn rfl dX10_tell_91 (Nat.le_of_ble_eq_true rfl) (Nat.le_of_ble_eq_true rfl) ?_
    exact k

theorem c_tel {Q : am_P} {z : am_Z} {m : Nat → Nat → Int32} {n : Nat} {D : Nat → Nat → Nat} (hC : C10 m D) {s : Nat} (hs : s < D 7 1) {w : Nat} (hw : w < 8) (k : Q (some (.int (nI (TS D s w)))) (wd z m) n) : AW mX10_tell Q 0 (am_ent (am_l mX10_tell) [.ref 37, .int (nI s), .int (nI w)]) [] (wd z m) n 0 0 := by
  rcases (show w = 0 ∨ w = 1 ∨ w = 2 ∨ w = 3 ∨ w = 4 ∨ w = 5 ∨ w = 6 ∨ w = 7 by omega) with rfl | rfl | rfl | rfl | rfl | rfl | rfl | rfl
  · exact c_tel_0 hC hs k
  · exact c_tel_1 hC hs k
  · exact c_tel_2 hC hs k
  · exact c_tel_3 hC hs k
  · exact c_tel_4 hC hs k
  · exact c_tel_5 hC hs k
  · exact c_tel_6 hC hs k
  · exact c_tel_7 hC hs k

set_option maxHeartbeats 4000000 in
set_option maxRecDepth 20000 in
theorem c_tel_o {Q : am_P} {z : am_Z} {m : Nat → Nat → Int32} {n : Nat} {D : Nat → Nat → Nat} (hC : C10 m D){s : Nat} (hs : s < D 7 1){y : Int32} (hy : y.toInt < 0 ∨ (7 < y.toInt ∧ y.toInt < 10) ∨ 18 ≤ y.toInt) (k : Q (some (.int (-102))) (wd z m) n) : AW mX10_tell Q 0 (am_ent (am_l mX10_tell) [.ref 37, .int (nI s), .int y]) [] (wd z m) n 0 0 := by
  show AW _ _ 0 [some (.ref 37), some (.int (nI s)), some (.int y)] [] _ _ 0 0
  obtain ⟨hg, hfd, hf3, hf0, hns, hn7, hmr, hwi, hw4, hfr, hr1, hhr, hh⟩ := id hC
  obtain ⟨⟨e0, e1, e2, e3, e4, e5⟩, q1, q2, q3, q4, q5, q6⟩ := hmr s hs
  refine r_iload_n 1 rfl 2 dX10_tell_0 rfl rfl ?_
  refine r_i2l 2 rfl dX10_tell_1 ?_
  refine r_ldc2 5 rfl 10 dX10_tell_2 (cn_X10_161 rfl) ?_
  refine r_ldc2 8 rfl 17 dX10_tell_5 (cn_X10_163 rfl) ?_
  refine q_S 11 0 0 rfl [.long y.toInt64, .long 10, .long 17] rfl dX10_tell_8 cl_X10_tell__X10_in (lk_X10_64 rfl) st_X10_in (Nat.le_of_ble_eq_true rfl) (fun _ _ => Nat.le_of_ble_eq_true rfl) rfl rfl (Nat.le_of_ble_eq_true rfl) (Nat.le_of_ble_eq_true rfl) ?_
  refine c_in_f (show y.toInt64.toInt < (10 : Int) ∨ (17 : Int) < y.toInt64.toInt by rw [Int32.toInt_toInt64]; omega) (k_i ?_)
  refine r_if_eq 14 29 rfl dX10_tell_11 rfl (fun _ => ?_) (fun q__ => absurd (by decide) q__)
  refine r_iload_n 30 rfl 2 dX10_tell_29 rfl rfl ?_
  refine r_i2l 31 rfl dX10_tell_30 ?_
  refine r_lconst 32 rfl 0 dX10_tell_31 rfl ?_
  refine r_ldc2 35 rfl 5 dX10_tell_32 (cn_X10_165 rfl) ?_
  refine q_S 38 0 0 rfl [.long y.toInt64, .long 0, .long 5] rfl dX10_tell_35 cl_X10_tell__X10_in (lk_X10_64 rfl) st_X10_in (Nat.le_of_ble_eq_true rfl) (fun _ _ => Nat.le_of_ble_eq_true rfl) rfl rfl (Nat.le_of_ble_eq_true rfl) (Nat.le_of_ble_eq_true rfl) ?_
  refine c_in_f (show y.toInt64.toInt < (0 : Int) ∨ (5 : Int) < y.toInt64.toInt by rw [Int32.toInt_toInt64]; omega) (k_i ?_)
  refine r_if_eq 41 53 rfl dX10_tell_38 rfl (fun _ => ?_) (fun q__ => absurd (by decide) q__)
  refine r_iload_n 54 rfl 2 dX10_tell_53 rfl rfl ?_
  refine r_bipush 56 rfl 6 dX10_tell_54 (by decide) ?_
  refine r_icmp_ne 59 67 rfl dX10_tell_56 rfl (fun _ => ?_) (fun q__ => absurd q__ (fun q__ => absurd (show y.toInt = (6 : Int) from Int32.toInt_inj.symm.mp q__) (by omega)))
  refine r_iload_n 68 rfl 2 dX10_tell_67 rfl rfl ?_
  refine r_bipush 70 rfl 7 dX10_tell_68 (by decide) ?_
  refine r_icmp_ne 73 89 rfl dX10_tell_70 rfl (fun _ => ?_) (fun q__ => absurd q__ (fun q__ => absurd (show y.toInt = (7 : Int) from Int32.toInt_inj.symm.mp q__) (by omega)))
  refine r_bipush 91 rfl (-102) dX10_tell_89 (by decide) ?_
  refine r_ireturn rfl dX10_tell_91 (Nat.le_of_ble_eq_true rfl) (Nat.le_of_ble_eq_true rfl) ?_
  exact k

set_option maxHeartbeats 4000000 in
set_option maxRecDepth 20000 in
theorem c_tel_b {Q : am_P} {z : am_Z} {m : Nat → Nat → Int32} {n : Nat} {D : Nat → Nat → Nat} (hC : C10 m D){s : Nat} (hs : s < D 7 1){w : Nat} (hw1 : 10 ≤ w) (hw2 : w < 18) (k : ∀ m', ag [43] m m' → Q (some (.int (nI (AM D s (w - 10))))) (wd z m') n) : AW mX10_tell Q 0 (am_ent (am_l mX10_tell) [.ref 37, .int (nI s), .int (nI w)]) [] (wd z m) n 0 0 := by
  show AW _ _ 0 [some (.ref 37), some (.int (nI s)), some (.int (nI w))] [] _ _ 0 0
  obtain ⟨hg, hfd, hf3, hf0, hns, hn7, hmr, hwi, hw4, hfr, hr1, hhr, hh⟩ := id hC
  refine r_iload_n 1 rfl 2 dX10_tell_0 rfl rfl ?_
  refine r_i2l 2 rfl dX10_tell_1 ?_
  refine r_ldc2 5 rfl 10 dX10_tell_2 (cn_X10_161 rfl) ?_
  refine r_ldc2 8 rfl 17 dX10_tell_5 (cn_X10_163 rfl) ?_
  refine q_S 11 0 0 rfl [.long ((nI w).toInt64), .long 10, .long 17] rfl dX10_tell_8 cl_X10_tell__X10_in (lk_X10_64 rfl) st_X10_in (Nat.le_of_ble_eq_true rfl) (fun _ _ => Nat.le_of_ble_eq_true rfl) rfl rfl (Nat.le_of_ble_eq_true rfl) (Nat.le_of_ble_eq_true rfl) ?_
  refine c_in_t (show (10 : Int) ≤ (nI w).toInt64.toInt by rw [Int32.toInt_toInt64, nI_toInt (by omega)]; omega) (show (nI w).toInt64.toInt ≤ (17 : Int) by rw [Int32.toInt_toInt64, nI_toInt (by omega)]; omega) (k_i ?_)
  refine r_if_eq 14 29 rfl dX10_tell_11 rfl (fun q__ => absurd q__ (by decide)) (fun _ => ?_)
  refine r_aload_n 15 rfl 0 dX10_tell_14 rfl rfl ?_
  refine r_iload_n 16 rfl 1 dX10_tell_15 rfl rfl ?_
  refine q_V 19 0 0 rfl [.int (nI s)] rfl dX10_tell_16 cl_X10_tell__X10_layMuch (lk_X10_145 rfl) im_X10_layMuch (ci := 10) rfl sl_X10__X10_layMuch rfl (Nat.le_of_ble_eq_true rfl) (fun _ _ => Nat.le_of_ble_eq_true rfl) rfl rfl (Nat.le_of_ble_eq_true rfl) (Nat.le_of_ble_eq_true rfl) ?_
  refine c_layMuch (D 0) hg hfd hf3 hf0 hn7 hmr hwi hw4 hfr hr1 hhr hh hs (fun m' h43 hag => (k_v ?_))
  have e43 : m' 43 (w - 10) = nI (AM D s (w - 10)) := h43 (w - 10) (by omega)
  refine r_aload_n 20 rfl 0 dX10_tell_19 rfl rfl ?_
  refine r_getf (v := .ref 43) (k := 12) 23 rfl dX10_tell_20 (gf_X10_25_10 rfl) rfl rfl ?_
  refine r_iload_n 24 rfl 2 dX10_tell_23 rfl rfl ?_
  refine r_bipush 26 rfl 10 dX10_tell_24 (by decide) ?_
  refine r_isub 27 rfl dX10_tell_26 ?_
  rw [show (nI w) - 10 = nI (w - 10) from pk_sub (a := w) (b := 10) hw1]
  refine r_iald (f := m' 43) 28 rfl (w - 10) dX10_tell_27 rfl rfl (by omega) (by decide) ?_
  rw [show (m' 43) (w - 10) = nI (AM D s (w - 10)) from e43]
  refine r_ireturn rfl dX10_tell_28 (Nat.le_of_ble_eq_true rfl) (Nat.le_of_ble_eq_true rfl) ?_
  exact k m' hag

set_option maxHeartbeats 4000000 in
set_option maxRecDepth 20000 in
theorem c9_about_n {Q : am_P} {z : am_Z} {m : Nat → Nat → Int32} {n : Nat} {D : Nat → Nat → Nat} (hC : C9 z m D){x : Int32} (hx : x.toInt < 0 ∨ (D 7 1 : Int) ≤ x.toInt) {y : Int32} (k : Q (some (.int (-101))) (wd z m) n) : AW mX9_about Q 0 (am_ent (am_l mX9_about) [.ref 1, .int x, .int y]) [] (wd z m) n 0 0 := by
  show AW _ _ 0 [some (.ref 1), some (.int x), some (.int y), none] [] _ _ 0 0
  obtain ⟨hg, hfd, hf3, hf0, hns, hn6, hsd, hsb, hwi, hw4, hfr, hr1, hhr, hh⟩ := id hC
  refine r_aload_n 1 rfl 0 dX9_about_0 rfl rfl ?_
  refine r_iload_n 2 rfl 1 dX9_about_1 rfl rfl ?_
  refine q_V 5 0 0 rfl [.int x] rfl dX9_about_2 cl_X9_about__X9_find (lk_X9_128 rfl) im_X9_find (ci := 9) rfl sl_X9__X9_find rfl (Nat.le_of_ble_eq_true rfl) (fun _ _ => Nat.le_of_ble_eq_true rfl) rfl rfl (Nat.le_of_ble_eq_true rfl) (Nat.le_of_ble_eq_true rfl) ?_
  refine c_find_f hns hn6 hx (k_n ?_)
  refine r_astore_nN 6 rfl 3 [some (.ref 1), some (.int x), some (.int y), some .null] dX9_about_5 rfl (by decide) rfl ?_
  refine r_aload_nN 7 rfl 3 dX9_about_6 rfl rfl ?_
  refine r_ifnonnullN 10 rfl dX9_about_7 ?_
  refine r_bipush 12 rfl (-101) dX9_about_10 (by decide) ?_
  refine r_ireturn rfl dX9_about_12 (Nat.le_of_ble_eq_true rfl) (Nat.le_of_ble_eq_true rfl) ?_
  exact k

set_option maxHeartbeats 4000000 in
set_option maxRecDepth 20000 in
theorem c9_about_o {Q : am_P} {z : am_Z} {m : Nat → Nat → Int32} {n : Nat} {D : Nat → Nat → Nat} (hC : C9 z m D){s : Nat} (hs : s < D 7 1){y : Int32} (hy : y.toInt < 0 ∨ (7 < y.toInt ∧ y.toInt < 10) ∨ 18 ≤ y.toInt) (k : Q (some (.int (-102))) (wd z m) n) : AW mX9_about Q 0 (am_ent (am_l mX9_about) [.ref 1, .int (nI s), .int y]) [] (wd z m) n 0 0 := by
  show AW _ _ 0 [some (.ref 1), some (.int (nI s)), some (.int y), none] [] _ _ 0 0
  obtain ⟨hg, hfd, hf3, hf0, hns, hn6, hsd, hsb, hwi, hw4, hfr, hr1, hhr, hh⟩ := id hC
  obtain ⟨q, hzr, hq, hz, hkd, hpa, hce, hsg1, hsg⟩ := hsd s hs
  obtain ⟨b1, b2, b3, b4⟩ := hsb s hs
  refine r_aload_n 1 rfl 0 dX9_about_0 rfl rfl ?_
  refine r_iload_n 2 rfl 1 dX9_about_1 rfl rfl ?_
  refine q_V 5 0 0 rfl [.int (nI s)] rfl dX9_about_2 cl_X9_about__X9_find (lk_X9_128 rfl) im_X9_find (ci := 9) rfl sl_X9__X9_find rfl (Nat.le_of_ble_eq_true rfl) (fun _ _ => Nat.le_of_ble_eq_true rfl) rfl rfl (Nat.le_of_ble_eq_true rfl) (Nat.le_of_ble_eq_true rfl) ?_
  refine c_find_t hns hn6 hs hzr (k_r ?_)
  refine r_astore_n 6 rfl 3 [some (.ref 1), some (.int (nI s)), some (.int y), some (.ref q)] dX9_about_5 rfl (by decide) rfl ?_
  refine r_aload_n 7 rfl 3 dX9_about_6 rfl rfl ?_
  refine r_ifnonnull 13 dX9_about_7 rfl ?_
  refine r_iload_n 14 rfl 2 dX9_about_13 rfl rfl ?_
  refine r_if_lt 17 31 rfl dX9_about_14 rfl (fun c14 => ?_) (fun c14 => ?_)
  · replace c14 : y.toInt < (0 : Int) := Int32.lt_iff_toInt_lt.mp c14
    refine r_iload_n 32 rfl 2 dX9_about_31 rfl rfl ?_
    refine r_bipush 34 rfl 10 dX9_about_32 (by decide) ?_
    refine r_icmp_lt 37 43 rfl dX9_about_34 rfl (fun c34 => ?_) (fun c34 => ?_)
    · replace c34 : y.toInt < (10 : Int) := Int32.lt_iff_toInt_lt.mp c34
      refine r_bipush 45 rfl (-102) dX9_about_43 (by decide) ?_
      refine r_ireturn rfl dX9_about_45 (Nat.le_of_ble_eq_true rfl) (Nat.le_of_ble_eq_true rfl) ?_
      exact k
    · replace c34 : ¬ y.toInt < (10 : Int) := fun q__ => c34 (Int32.lt_iff_toInt_lt.mpr q__)
      refine r_iload_n 38 rfl 2 dX9_about_37 rfl rfl ?_
      refine r_bipush 40 rfl 18 dX9_about_38 (by decide) ?_
      refine r_icmp_lt 43 46 rfl dX9_about_40 rfl (fun c40 => ?_) (fun c40 => ?_)
      · replace c40 : y.toInt < (18 : Int) := Int32.lt_iff_toInt_lt.mp c40
        exfalso; omega
      · replace c40 : ¬ y.toInt < (18 : Int) := fun q__ => c40 (Int32.lt_iff_toInt_lt.mpr q__)
        refine r_bipush 45 rfl (-102) dX9_about_43 (by decide) ?_
        refine r_ireturn rfl dX9_about_45 (Nat.le_of_ble_eq_true rfl) (Nat.le_of_ble_eq_true rfl) ?_
        exact k
  · replace c14 : ¬ y.toInt < (0 : Int) := fun q__ => c14 (Int32.lt_iff_toInt_lt.mpr q__)
    refine r_iload_n 18 rfl 2 dX9_about_17 rfl rfl ?_
    refine r_bipush 20 rfl 7 dX9_about_18 (by decide) ?_
    refine r_icmp_gt 23 31 rfl dX9_about_20 rfl (fun c20 => ?_) (fun c20 => ?_)
    · replace c20 : (7 : Int) < y.toInt := Int32.lt_iff_toInt_lt.mp c20
      refine r_iload_n 32 rfl 2 dX9_about_31 rfl rfl ?_
      refine r_bipush 34 rfl 10 dX9_about_32 (by decide) ?_
      refine r_icmp_lt 37 43 rfl dX9_about_34 rfl (fun c34 => ?_) (fun c34 => ?_)
      · replace c34 : y.toInt < (10 : Int) := Int32.lt_iff_toInt_lt.mp c34
        refine r_bipush 45 rfl (-102) dX9_about_43 (by decide) ?_
        refine r_ireturn rfl dX9_about_45 (Nat.le_of_ble_eq_true rfl) (Nat.le_of_ble_eq_true rfl) ?_
        exact k
      · replace c34 : ¬ y.toInt < (10 : Int) := fun q__ => c34 (Int32.lt_iff_toInt_lt.mpr q__)
        refine r_iload_n 38 rfl 2 dX9_about_37 rfl rfl ?_
        refine r_bipush 40 rfl 18 dX9_about_38 (by decide) ?_
        refine r_icmp_lt 43 46 rfl dX9_about_40 rfl (fun c40 => ?_) (fun c40 => ?_)
        · replace c40 : y.toInt < (18 : Int) := Int32.lt_iff_toInt_lt.mp c40
          exfalso; omega
        · replace c40 : ¬ y.toInt < (18 : Int) := fun q__ => c40 (Int32.lt_iff_toInt_lt.mpr q__)
          refine r_bipush 45 rfl (-102) dX9_about_43 (by decide) ?_
          refine r_ireturn rfl dX9_about_45 (Nat.le_of_ble_eq_true rfl) (Nat.le_of_ble_eq_true rfl) ?_
          exact k
    · replace c20 : ¬ (7 : Int) < y.toInt := fun q__ => c20 (Int32.lt_iff_toInt_lt.mpr q__)
      exfalso; omega

set_option maxHeartbeats 4000000 in
set_option maxRecDepth 20000 in
theorem c9_about_t {Q : am_P} {z : am_Z} {m : Nat → Nat → Int32} {n : Nat} {D : Nat → Nat → Nat} (hC : C9 z m D){s : Nat} (hs : s < D 7 1) {w : Nat} (hw : w < 8) (k : Q (some (.int (nI (TS D s w)))) (wd z m) n) : AW mX9_about Q 0 (am_ent (am_l mX9_about) [.ref 1, .int (nI s), .int (nI w)]) [] (wd z m) n 0 0 := by
  show AW _ _ 0 [some (.ref 1), some (.int (nI s)), some (.int (nI w)), none] [] _ _ 0 0
  obtain ⟨hg, hfd, hf3, hf0, hns, hn6, hsd, hsb, hwi, hw4, hfr, hr1, hhr, hh⟩ := id hC
  obtain ⟨q, hzr, hq, hz, hkd, hpa, hce, hsg1, hsg⟩ := hsd s hs
  obtain ⟨b1, b2, b3, b4⟩ := hsb s hs
  refine r_aload_n 1 rfl 0 dX9_about_0 rfl rfl ?_
  refine r_iload_n 2 rfl 1 dX9_about_1 rfl rfl ?_
  refine q_V 5 0 0 rfl [.int (nI s)] rfl dX9_about_2 cl_X9_about__X9_find (lk_X9_128 rfl) im_X9_find (ci := 9) rfl sl_X9__X9_find rfl (Nat.le_of_ble_eq_true rfl) (fun _ _ => Nat.le_of_ble_eq_true rfl) rfl rfl (Nat.le_of_ble_eq_true rfl) (Nat.le_of_ble_eq_true rfl) ?_
  refine c_find_t hns hn6 hs hzr (k_r ?_)
  refine r_astore_n 6 rfl 3 [some (.ref 1), some (.int (nI s)), some (.int (nI w)), some (.ref q)] dX9_about_5 rfl (by decide) rfl ?_
  refine r_aload_n 7 rfl 3 dX9_about_6 rfl rfl ?_
  refine r_ifnonnull 13 dX9_about_7 rfl ?_
  refine r_iload_n 14 rfl 2 dX9_about_13 rfl rfl ?_
  refine r_if_lt 17 31 rfl dX9_about_14 rfl (fun q__ => absurd q__ (fun q__ => absurd ((nI_ltI (a := w) (b := 0) (by omega) (by omega)).mp q__) (by omega))) (fun _ => ?_)
  refine r_iload_n 18 rfl 2 dX9_about_17 rfl rfl ?_
  refine r_bipush 20 rfl 7 dX9_about_18 (by decide) ?_
  refine r_icmp_gt 23 31 rfl dX9_about_20 rfl (fun q__ => absurd q__ (fun q__ => absurd ((nI_ltI (a := 7) (b := w) (by omega) (by omega)).mp q__) (by omega))) (fun _ => ?_)
  refine r_aload_n 24 rfl 0 dX9_about_23 rfl rfl ?_
  refine r_aload_n 25 rfl 3 dX9_about_24 rfl rfl ?_
  refine r_iload_n 26 rfl 1 dX9_about_25 rfl rfl ?_
  refine r_iload_n 27 rfl 2 dX9_about_26 rfl rfl ?_
  refine q_V 30 0 0 rfl [.ref q, .int (nI s), .int (nI w)] rfl dX9_about_27 cl_X9_about__X9_tellOfSource (lk_X9_132 rfl) im_X9_tellOfSource (ci := 9) rfl sl_X9__X9_tellOfSource rfl (Nat.le_of_ble_eq_true rfl) (fun _ _ => Nat.le_of_ble_eq_true rfl) rfl rfl (Nat.le_of_ble_eq_true rfl) (Nat.le_of_ble_eq_true rfl) ?_
  refine c_tos hC hs hzr hw (k_i ?_)
  refine r_ireturn rfl dX9_about_30 (Nat.le_of_ble_eq_true rfl) (Nat.le_of_ble_eq_true rfl) ?_
  exact k

set_option maxHeartbeats 4000000 in
set_option maxRecDepth 20000 in
theorem c9_about_b0 {Q : am_P} {z : am_Z} {m : Nat → Nat → Int32} {n : Nat} {D : Nat → Nat → Nat} (hC : C9 z m D){s : Nat} (hs : s < D 7 1){w : Nat} (hw1 : 10 ≤ w) (hw2 : w < 18) (hsm : ¬ (D 5 s = 1 ∧ so_at (D 1 s) (D 7 3) (D 7 4) = true)) (k : Q (some (.int (nI (AM D s (w - 10))))) (wd z m) n) : AW mX9_about Q 0 (am_ent (am_l mX9_about) [.ref 1, .int (nI s), .int (nI w)]) [] (wd z m) n 0 0 := by
  show AW _ _ 0 [some (.ref 1), some (.int (nI s)), some (.int (nI w)), none] [] _ _ 0 0
  obtain ⟨hg, hfd, hf3, hf0, hns, hn6, hsd, hsb, hwi, hw4, hfr, hr1, hhr, hh⟩ := id hC
  obtain ⟨q, hzr, hq, hz, hkd, hpa, hce, hsg1, hsg⟩ := hsd s hs
  obtain ⟨b1, b2, b3, b4⟩ := hsb s hs
  refine r_aload_n 1 rfl 0 dX9_about_0 rfl rfl ?_
  refine r_iload_n 2 rfl 1 dX9_about_1 rfl rfl ?_
  refine q_V 5 0 0 rfl [.int (nI s)] rfl dX9_about_2 cl_X9_about__X9_find (lk_X9_128 rfl) im_X9_find (ci := 9) rfl sl_X9__X9_find rfl (Nat.le_of_ble_eq_true rfl) (fun _ _ => Nat.le_of_ble_eq_true rfl) rfl rfl (Nat.le_of_ble_eq_true rfl) (Nat.le_of_ble_eq_true rfl) ?_
  refine c_find_t hns hn6 hs hzr (k_r ?_)
  refine r_astore_n 6 rfl 3 [some (.ref 1), some (.int (nI s)), some (.int (nI w)), some (.ref q)] dX9_about_5 rfl (by decide) rfl ?_
  refine r_aload_n 7 rfl 3 dX9_about_6 rfl rfl ?_
  refine r_ifnonnull 13 dX9_about_7 rfl ?_
  refine r_iload_n 14 rfl 2 dX9_about_13 rfl rfl ?_
  refine r_if_lt 17 31 rfl dX9_about_14 rfl (fun q__ => absurd q__ (fun q__ => absurd ((nI_ltI (a := w) (b := 0) (by omega) (by omega)).mp q__) (by omega))) (fun _ => ?_)
  refine r_iload_n 18 rfl 2 dX9_about_17 rfl rfl ?_
  refine r_bipush 20 rfl 7 dX9_about_18 (by decide) ?_
  refine r_icmp_gt 23 31 rfl dX9_about_20 rfl (fun _ => ?_) (fun q__ => absurd ((nI_ltI (a := 7) (b := w) (by omega) (by omega)).mpr (by omega)) q__)
  refine r_iload_n 32 rfl 2 dX9_about_31 rfl rfl ?_
  refine r_bipush 34 rfl 10 dX9_about_32 (by decide) ?_
  refine r_icmp_lt 37 43 rfl dX9_about_34 rfl (fun q__ => absurd q__ (fun q__ => absurd ((nI_ltI (a := w) (b := 10) (by omega) (by omega)).mp q__) (by omega))) (fun _ => ?_)
  refine r_iload_n 38 rfl 2 dX9_about_37 rfl rfl ?_
  refine r_bipush 40 rfl 18 dX9_about_38 (by decide) ?_
  refine r_icmp_lt 43 46 rfl dX9_about_40 rfl (fun _ => ?_) (fun q__ => absurd ((nI_ltI (a := w) (b := 18) (by omega) (by omega)).mpr (by omega)) q__)
  refine r_aload_n 47 rfl 0 dX9_about_46 rfl rfl ?_
  refine r_getf (v := .ref 7) (k := 3) 50 rfl dX9_about_47 (gf_X9_32_9 rfl) rfl rfl ?_
  refine r_aload_n 51 rfl 3 dX9_about_50 rfl rfl ?_
  refine r_iload_n 52 rfl 1 dX9_about_51 rfl rfl ?_
  refine q_V 55 0 0 rfl [.ref q, .int (nI s)] rfl dX9_about_52 cl_X9_about__X5_smells (lk_X9_136 rfl) im_X5_smells (ci := 5) rfl sl_X5__X5_smells rfl (Nat.le_of_ble_eq_true rfl) (fun _ _ => Nat.le_of_ble_eq_true rfl) rfl rfl (Nat.le_of_ble_eq_true rfl) (Nat.le_of_ble_eq_true rfl) ?_
  refine c_smells_7 hq hz hkd (by omega) b1 b2 hhr (by omega) hfr hr1 (fun h => absurd h hsm) (fun _ => (k_i ?_))
  refine r_if_ne 58 60 rfl dX9_about_55 rfl (fun q__ => absurd (by decide) q__) (fun _ => ?_)
  refine r_iconst 59 rfl 0 dX9_about_58 rfl ?_
  refine r_ireturn rfl dX9_about_59 (Nat.le_of_ble_eq_true rfl) (Nat.le_of_ble_eq_true rfl) ?_
  have e0 : AM D s (w - 10) = 0 := by unfold AM so_am; rw [if_neg hsm]
  rw [e0] at k
  exact k

set_option maxHeartbeats 4000000 in
set_option maxRecDepth 20000 in
theorem c9_about_b1 {Q : am_P} {z : am_Z} {m : Nat → Nat → Int32} {n : Nat} {D : Nat → Nat → Nat} (hC : C9 z m D){s : Nat} (hs : s < D 7 1){w : Nat} (hw1 : 10 ≤ w) (hw2 : w < 18) (hsm : (D 5 s = 1 ∧ so_at (D 1 s) (D 7 3) (D 7 4) = true)) (k : ∀ m', ag [33] m m' → Q (some (.int (nI (AM D s (w - 10))))) (wd z m') n) : AW mX9_about Q 0 (am_ent (am_l mX9_about) [.ref 1, .int (nI s), .int (nI w)]) [] (wd z m) n 0 0 := by
  show AW _ _ 0 [some (.ref 1), some (.int (nI s)), some (.int (nI w)), none] [] _ _ 0 0
  obtain ⟨hg, hfd, hf3, hf0, hns, hn6, hsd, hsb, hwi, hw4, hfr, hr1, hhr, hh⟩ := id hC
  obtain ⟨q, hzr, hq, hz, hkd, hpa, hce, hsg1, hsg⟩ := hsd s hs
  obtain ⟨b1, b2, b3, b4⟩ := hsb s hs
  refine r_aload_n 1 rfl 0 dX9_about_0 rfl rfl ?_
  refine r_iload_n 2 rfl 1 dX9_about_1 rfl rfl ?_
  refine q_V 5 0 0 rfl [.int (nI s)] rfl dX9_about_2 cl_X9_about__X9_find (lk_X9_128 rfl) im_X9_find (ci := 9) rfl sl_X9__X9_find rfl (Nat.le_of_ble_eq_true rfl) (fun _ _ => Nat.le_of_ble_eq_true rfl) rfl rfl (Nat.le_of_ble_eq_true rfl) (Nat.le_of_ble_eq_true rfl) ?_
  refine c_find_t hns hn6 hs hzr (k_r ?_)
  refine r_astore_n 6 rfl 3 [some (.ref 1), some (.int (nI s)), some (.int (nI w)), some (.ref q)] dX9_about_5 rfl (by decide) rfl ?_
  refine r_aload_n 7 rfl 3 dX9_about_6 rfl rfl ?_
  refine r_ifnonnull 13 dX9_about_7 rfl ?_
  refine r_iload_n 14 rfl 2 dX9_about_13 rfl rfl ?_
  refine r_if_lt 17 31 rfl dX9_about_14 rfl (fun q__ => absurd q__ (fun q__ => absurd ((nI_ltI (a := w) (b := 0) (by omega) (by omega)).mp q__) (by omega))) (fun _ => ?_)
  refine r_iload_n 18 rfl 2 dX9_about_17 rfl rfl ?_
  refine r_bipush 20 rfl 7 dX9_about_18 (by decide) ?_
  refine r_icmp_gt 23 31 rfl dX9_about_20 rfl (fun _ => ?_) (fun q__ => absurd ((nI_ltI (a := 7) (b := w) (by omega) (by omega)).mpr (by omega)) q__)
  refine r_iload_n 32 rfl 2 dX9_about_31 rfl rfl ?_
  refine r_bipush 34 rfl 10 dX9_about_32 (by decide) ?_
  refine r_icmp_lt 37 43 rfl dX9_about_34 rfl (fun q__ => absurd q__ (fun q__ => absurd ((nI_ltI (a := w) (b := 10) (by omega) (by omega)).mp q__) (by omega))) (fun _ => ?_)
  refine r_iload_n 38 rfl 2 dX9_about_37 rfl rfl ?_
  refine r_bipush 40 rfl 18 dX9_about_38 (by decide) ?_
  refine r_icmp_lt 43 46 rfl dX9_about_40 rfl (fun _ => ?_) (fun q__ => absurd ((nI_ltI (a := w) (b := 18) (by omega) (by omega)).mpr (by omega)) q__)
  refine r_aload_n 47 rfl 0 dX9_about_46 rfl rfl ?_
  refine r_getf (v := .ref 7) (k := 3) 50 rfl dX9_about_47 (gf_X9_32_9 rfl) rfl rfl ?_
  refine r_aload_n 51 rfl 3 dX9_about_50 rfl rfl ?_
  refine r_iload_n 52 rfl 1 dX9_about_51 rfl rfl ?_
  refine q_V 55 0 0 rfl [.ref q, .int (nI s)] rfl dX9_about_52 cl_X9_about__X5_smells (lk_X9_136 rfl) im_X5_smells (ci := 5) rfl sl_X5__X5_smells rfl (Nat.le_of_ble_eq_true rfl) (fun _ _ => Nat.le_of_ble_eq_true rfl) rfl rfl (Nat.le_of_ble_eq_true rfl) (Nat.le_of_ble_eq_true rfl) ?_
  refine c_smells_7 hq hz hkd (by omega) b1 b2 hhr (by omega) hfr hr1 (fun _ => (k_i ?_)) (fun h => absurd hsm h)
  refine r_if_ne 58 60 rfl dX9_about_55 rfl (fun _ => ?_) (fun q__ => absurd q__ (by decide))
  refine r_aload_n 61 rfl 0 dX9_about_60 rfl rfl ?_
  refine r_getf (v := .ref 4) (k := 1) 64 rfl dX9_about_61 (gf_X9_19_9 rfl) rfl rfl ?_
  refine r_aload_n 65 rfl 3 dX9_about_64 rfl rfl ?_
  refine v_gf_X9_140 rfl 68 rfl dX9_about_65 hq hz hkd ?_
  refine r_aload_n 69 rfl 3 dX9_about_68 rfl rfl ?_
  refine r_aload_n 70 rfl 0 dX9_about_69 rfl rfl ?_
  refine r_getf (v := .ref 7) (k := 3) 73 rfl dX9_about_70 (gf_X9_32_9 rfl) rfl rfl ?_
  refine r_getf (v := .ref 9) (k := 2) 76 rfl dX9_about_73 (gf_X9_143_5 rfl) rfl rfl ?_
  refine r_iload_n 77 rfl 1 dX9_about_76 rfl rfl ?_
  refine r_iald (f := m 9) 78 rfl s dX9_about_77 rfl rfl (by omega) (by decide) ?_
  rw [show (m 9) s = nI (D 6 s) from b3]
  refine v_X9_about_78 hq hz hkd hsg b4 (Nat.le_of_ble_eq_true rfl) ?_
  refine r_aload_n 82 rfl 3 dX9_about_81 rfl rfl ?_
  refine v_X9_about_82 hq hz hkd (Nat.le_of_ble_eq_true rfl) ?_
  refine r_aload_n 86 rfl 0 dX9_about_85 rfl rfl ?_
  refine r_getf (v := .ref 7) (k := 3) 89 rfl dX9_about_86 (gf_X9_32_9 rfl) rfl rfl ?_
  refine r_getf (v := .int ((m 7) 3)) (k := 3) 92 rfl dX9_about_89 (gf_X9_153_5 rfl) rfl rfl ?_
  rw [show (m 7) 3 = nI (D 7 2) from hwi]
  refine r_iconst 93 rfl 0 dX9_about_92 rfl ?_
  refine r_aload_n 94 rfl 0 dX9_about_93 rfl rfl ?_
  refine r_getf (v := .ref 33) (k := 7) 97 rfl dX9_about_94 (gf_X9_49_9 rfl) rfl rfl ?_
  refine q_V 100 0 0 rfl [.int (nI (D 3 s)), .int (nI (so_fo (D 1 s) (D 4 s) (D 6 s))), .int (nI (so_ea (D 1 s))), .int (nI (D 7 2)), .int 0, .ref 33] rfl dX9_about_97 cl_X9_about__X7_spread (lk_X9_156 rfl) im_X7_spread (ci := 7) rfl sl_X7__X7_spread rfl (Nat.le_of_ble_eq_true rfl) (fun _ _ => Nat.le_of_ble_eq_true rfl) rfl rfl (Nat.le_of_ble_eq_true rfl) (Nat.le_of_ble_eq_true rfl) ?_
  refine c_spread_33 (wl := 0) (D 0) hg hfd (hf0 (by omega)) hf3 hce (so_fo_le hsg) (so_ea_le _) hw4 (fun m' h33 hag => (k_v ?_))
  have e33 : m' 33 (w - 10) = nI (AM D s (w - 10)) := by
    rw [h33 (w - 10) (by omega), sp_b0]; unfold AM so_am; rw [if_pos hsm]
  refine r_aload_n 101 rfl 0 dX9_about_100 rfl rfl ?_
  refine r_getf (v := .ref 33) (k := 7) 104 rfl dX9_about_101 (gf_X9_49_9 rfl) rfl rfl ?_
  refine r_iload_n 105 rfl 2 dX9_about_104 rfl rfl ?_
  refine r_bipush 107 rfl 10 dX9_about_105 (by decide) ?_
  refine r_isub 108 rfl dX9_about_107 ?_
  rw [show (nI w) - 10 = nI (w - 10) from pk_sub (a := w) (b := 10) hw1]
  refine r_iald (f := m' 33) 109 rfl (w - 10) dX9_about_108 rfl rfl (by omega) (by decide) ?_
  rw [show (m' 33) (w - 10) = nI (AM D s (w - 10)) from e33]
  refine r_ireturn rfl dX9_about_109 (Nat.le_of_ble_eq_true rfl) (Nat.le_of_ble_eq_true rfl) ?_
  exact k m' hag

set_option maxHeartbeats 4000000 in
set_option maxRecDepth 20000 in
theorem c10_about_n {Q : am_P} {z : am_Z} {m : Nat → Nat → Int32} {n : Nat} {D : Nat → Nat → Nat} (hC : C10 m D){x : Int32} (hx : x.toInt < 0 ∨ (D 7 1 : Int) ≤ x.toInt) {y : Int32} (k : Q (some (.int (-101))) (wd z m) n) : AW mX10_about Q 0 (am_ent (am_l mX10_about) [.ref 37, .int x, .int y]) [] (wd z m) n 0 0 := by
  show AW _ _ 0 [some (.ref 37), some (.int x), some (.int y)] [] _ _ 0 0
  obtain ⟨hg, hfd, hf3, hf0, hns, hn7, hmr, hwi, hw4, hfr, hr1, hhr, hh⟩ := id hC
  refine r_aload_n 1 rfl 0 dX10_about_0 rfl rfl ?_
  refine r_iload_n 2 rfl 1 dX10_about_1 rfl rfl ?_
  refine q_V 5 0 0 rfl [.int x] rfl dX10_about_2 cl_X10_about__X10_isSource (lk_X10_167 rfl) im_X10_isSource (ci := 10) rfl sl_X10__X10_isSource rfl (Nat.le_of_ble_eq_true rfl) (fun _ _ => Nat.le_of_ble_eq_true rfl) rfl rfl (Nat.le_of_ble_eq_true rfl) (Nat.le_of_ble_eq_true rfl) ?_
  refine c_isSource_f hns hn7 hx (k_i ?_)
  refine r_if_eq 8 17 rfl dX10_about_5 rfl (fun _ => ?_) (fun q__ => absurd (by decide) q__)
  refine r_bipush 19 rfl (-101) dX10_about_17 (by decide) ?_
  refine r_ireturn rfl dX10_about_19 (Nat.le_of_ble_eq_true rfl) (Nat.le_of_ble_eq_true rfl) ?_
  exact k

set_option maxHeartbeats 4000000 in
set_option maxRecDepth 20000 in
theorem c10_about_o {Q : am_P} {z : am_Z} {m : Nat → Nat → Int32} {n : Nat} {D : Nat → Nat → Nat} (hC : C10 m D){s : Nat} (hs : s < D 7 1){y : Int32} (hy : y.toInt < 0 ∨ (7 < y.toInt ∧ y.toInt < 10) ∨ 18 ≤ y.toInt) (k : Q (some (.int (-102))) (wd z m) n) : AW mX10_about Q 0 (am_ent (am_l mX10_about) [.ref 37, .int (nI s), .int y]) [] (wd z m) n 0 0 := by
  show AW _ _ 0 [some (.ref 37), some (.int (nI s)), some (.int y)] [] _ _ 0 0
  obtain ⟨hg, hfd, hf3, hf0, hns, hn7, hmr, hwi, hw4, hfr, hr1, hhr, hh⟩ := id hC
  refine r_aload_n 1 rfl 0 dX10_about_0 rfl rfl ?_
  refine r_iload_n 2 rfl 1 dX10_about_1 rfl rfl ?_
  refine q_V 5 0 0 rfl [.int (nI s)] rfl dX10_about_2 cl_X10_about__X10_isSource (lk_X10_167 rfl) im_X10_isSource (ci := 10) rfl sl_X10__X10_isSource rfl (Nat.le_of_ble_eq_true rfl) (fun _ _ => Nat.le_of_ble_eq_true rfl) rfl rfl (Nat.le_of_ble_eq_true rfl) (Nat.le_of_ble_eq_true rfl) ?_
  refine c_isSource_t hns hn7 hs (k_i ?_)
  refine r_if_eq 8 17 rfl dX10_about_5 rfl (fun q__ => absurd q__ (by decide)) (fun _ => ?_)
  refine r_aload_n 9 rfl 0 dX10_about_8 rfl rfl ?_
  refine r_iload_n 10 rfl 1 dX10_about_9 rfl rfl ?_
  refine r_iload_n 11 rfl 2 dX10_about_10 rfl rfl ?_
  refine q_V 14 0 0 rfl [.int (nI s), .int y] rfl dX10_about_11 cl_X10_about__X10_tell (lk_X10_170 rfl) im_X10_tell (ci := 10) rfl sl_X10__X10_tell rfl (Nat.le_of_ble_eq_true rfl) (fun _ _ => Nat.le_of_ble_eq_true rfl) rfl rfl (Nat.le_of_ble_eq_true rfl) (Nat.le_of_ble_eq_true rfl) ?_
  refine c_tel_o hC hs hy (k_i ?_)
  refine r_goto 19 dX10_about_14 rfl ?_
  refine r_ireturn rfl dX10_about_19 (Nat.le_of_ble_eq_true rfl) (Nat.le_of_ble_eq_true rfl) ?_
  exact k

set_option maxHeartbeats 4000000 in
set_option maxRecDepth 20000 in
theorem c10_about_t {Q : am_P} {z : am_Z} {m : Nat → Nat → Int32} {n : Nat} {D : Nat → Nat → Nat} (hC : C10 m D){s : Nat} (hs : s < D 7 1) {w : Nat} (hw : w < 8) (k : Q (some (.int (nI (TS D s w)))) (wd z m) n) : AW mX10_about Q 0 (am_ent (am_l mX10_about) [.ref 37, .int (nI s), .int (nI w)]) [] (wd z m) n 0 0 := by
  show AW _ _ 0 [some (.ref 37), some (.int (nI s)), some (.int (nI w))] [] _ _ 0 0
  obtain ⟨hg, hfd, hf3, hf0, hns, hn7, hmr, hwi, hw4, hfr, hr1, hhr, hh⟩ := id hC
  refine r_aload_n 1 rfl 0 dX10_about_0 rfl rfl ?_
  refine r_iload_n 2 rfl 1 dX10_about_1 rfl rfl ?_
  refine q_V 5 0 0 rfl [.int (nI s)] rfl dX10_about_2 cl_X10_about__X10_isSource (lk_X10_167 rfl) im_X10_isSource (ci := 10) rfl sl_X10__X10_isSource rfl (Nat.le_of_ble_eq_true rfl) (fun _ _ => Nat.le_of_ble_eq_true rfl) rfl rfl (Nat.le_of_ble_eq_true rfl) (Nat.le_of_ble_eq_true rfl) ?_
  refine c_isSource_t hns hn7 hs (k_i ?_)
  refine r_if_eq 8 17 rfl dX10_about_5 rfl (fun q__ => absurd q__ (by decide)) (fun _ => ?_)
  refine r_aload_n 9 rfl 0 dX10_about_8 rfl rfl ?_
  refine r_iload_n 10 rfl 1 dX10_about_9 rfl rfl ?_
  refine r_iload_n 11 rfl 2 dX10_about_10 rfl rfl ?_
  refine q_V 14 0 0 rfl [.int (nI s), .int (nI w)] rfl dX10_about_11 cl_X10_about__X10_tell (lk_X10_170 rfl) im_X10_tell (ci := 10) rfl sl_X10__X10_tell rfl (Nat.le_of_ble_eq_true rfl) (fun _ _ => Nat.le_of_ble_eq_true rfl) rfl rfl (Nat.le_of_ble_eq_true rfl) (Nat.le_of_ble_eq_true rfl) ?_
  refine c_tel hC hs hw (k_i ?_)
  refine r_goto 19 dX10_about_14 rfl ?_
  refine r_ireturn rfl dX10_about_19 (Nat.le_of_ble_eq_true rfl) (Nat.le_of_ble_eq_true rfl) ?_
  exact k

set_option maxHeartbeats 4000000 in
set_option maxRecDepth 20000 in
theorem c10_about_b {Q : am_P} {z : am_Z} {m : Nat → Nat → Int32} {n : Nat} {D : Nat → Nat → Nat} (hC : C10 m D){s : Nat} (hs : s < D 7 1){w : Nat} (hw1 : 10 ≤ w) (hw2 : w < 18) (k : ∀ m', ag [43] m m' → Q (some (.int (nI (AM D s (w - 10))))) (wd z m') n) : AW mX10_about Q 0 (am_ent (am_l mX10_about) [.ref 37, .int (nI s), .int (nI w)]) [] (wd z m) n 0 0 := by
  show AW _ _ 0 [some (.ref 37), some (.int (nI s)), some (.int (nI w))] [] _ _ 0 0
  obtain ⟨hg, hfd, hf3, hf0, hns, hn7, hmr, hwi, hw4, hfr, hr1, hhr, hh⟩ := id hC
  refine r_aload_n 1 rfl 0 dX10_about_0 rfl rfl ?_
  refine r_iload_n 2 rfl 1 dX10_about_1 rfl rfl ?_
  refine q_V 5 0 0 rfl [.int (nI s)] rfl dX10_about_2 cl_X10_about__X10_isSource (lk_X10_167 rfl) im_X10_isSource (ci := 10) rfl sl_X10__X10_isSource rfl (Nat.le_of_ble_eq_true rfl) (fun _ _ => Nat.le_of_ble_eq_true rfl) rfl rfl (Nat.le_of_ble_eq_true rfl) (Nat.le_of_ble_eq_true rfl) ?_
  refine c_isSource_t hns hn7 hs (k_i ?_)
  refine r_if_eq 8 17 rfl dX10_about_5 rfl (fun q__ => absurd q__ (by decide)) (fun _ => ?_)
  refine r_aload_n 9 rfl 0 dX10_about_8 rfl rfl ?_
  refine r_iload_n 10 rfl 1 dX10_about_9 rfl rfl ?_
  refine r_iload_n 11 rfl 2 dX10_about_10 rfl rfl ?_
  refine q_V 14 0 0 rfl [.int (nI s), .int (nI w)] rfl dX10_about_11 cl_X10_about__X10_tell (lk_X10_170 rfl) im_X10_tell (ci := 10) rfl sl_X10__X10_tell rfl (Nat.le_of_ble_eq_true rfl) (fun _ _ => Nat.le_of_ble_eq_true rfl) rfl rfl (Nat.le_of_ble_eq_true rfl) (Nat.le_of_ble_eq_true rfl) ?_
  refine c_tel_b hC hs hw1 hw2 (fun m' hag => (k_i ?_))
  refine r_goto 19 dX10_about_14 rfl ?_
  refine r_ireturn rfl dX10_about_19 (Nat.le_of_ble_eq_true rfl) (Nat.le_of_ble_eq_true rfl) ?_
  exact k m' hag

set_option maxHeartbeats 4000000 in
set_option maxRecDepth 20000 in
theorem P_about {i : Nat} {z : am_Z} {m : Nat → Nat → Int32} {n : Nat} {D K : Nat → Nat → Nat} (hI : IV i z m n D K) (hi : i + 5 ≤ 2560) (x : Int32) (y : Int32) : AW mX9_about (PR (i + 5) mX10_about [.ref 37, .int x, .int y]) 0 (am_ent (am_l mX9_about) [.ref 1, .int x, .int y]) [] (wd z m) n 0 0 := by
  obtain ⟨h9, h10, hnz, hpg, hop, hnw, hct, him⟩ := id hI
  obtain ⟨hg, hfd, hf3, hf0, hns, hn6, hsd, hsb, hwi, hw4, hfr, hr1, hhr, hh⟩ := id h9
  by_cases hx : x.toInt < 0 ∨ (D 7 1 : Int) ≤ x.toInt
  · exact c9_about_n h9 hx (PR_i (fun Q2 k => c10_about_n h10 hx (k _ _ _ _ _ (IV_mono hI (by omega) hi))))
  · obtain ⟨s, hs, rfl⟩ := (i_cases x (D 7 1) (by omega)).resolve_left hx
    rcases i_cases y 18 (by decide) with hy | ⟨w, hw, rfl⟩
    · exact c9_about_o h9 hs (by omega) (PR_i (fun Q2 k => c10_about_o h10 hs (by omega) (k _ _ _ _ _ (IV_mono hI (by omega) hi))))
    · by_cases hw8 : w < 8
      · exact c9_about_t h9 hs hw8 (PR_i (fun Q2 k => c10_about_t h10 hs hw8 (k _ _ _ _ _ (IV_mono hI (by omega) hi))))
      · by_cases hw10 : w < 10
        · have hy : (nI w).toInt < 0 ∨ (7 < (nI w).toInt ∧ (nI w).toInt < 10) ∨ 18 ≤ (nI w).toInt := by rw [nI_toInt (by omega)]; omega
          exact c9_about_o h9 hs hy (PR_i (fun Q2 k => c10_about_o h10 hs hy (k _ _ _ _ _ (IV_mono hI (by omega) hi))))
        · by_cases hsm : D 5 s = 1 ∧ so_at (D 1 s) (D 7 3) (D 7 4) = true
          · refine c9_about_b1 h9 hs (by omega) hw hsm (fun m1 hag => PR_i (fun Q2 k => ?_))
            have hI1 := IV_ag hI (ag_w hag (by decide))
            exact c10_about_b hI1.2.1 hs (by omega) hw (fun m2 hag2 => k _ _ _ _ _ (IV_mono (IV_ag hI1 (ag_w hag2 (by decide))) (by omega) hi))
          · exact c9_about_b0 h9 hs (by omega) hw hsm (PR_i (fun Q2 k => c10_about_b h10 hs (by omega) hw (fun m2 hag2 => k _ _ _ _ _ (IV_mono (IV_ag hI (ag_w hag2 (by decide))) (by omega) hi))))

set_option maxHeartbeats 4000000 in
set_option maxRecDepth 20000 in
theorem c_isPar_t {Q : am_P} {h : Nat → am_E} {n : Nat} {p : Nat} (hp : p < 3) (k : Q (some (.int 1)) h n) : AW mX9_isParish Q 0 (am_ent (am_l mX9_isParish) [.int (nI p)]) [] (h) n 0 0 := by
  show AW _ _ 0 [some (.int (nI p))] [] _ _ 0 0
  refine r_iload_n 1 rfl 0 dX9_isParish_0 rfl rfl ?_
  refine r_if_lt 4 13 rfl dX9_isParish_1 rfl (fun q__ => absurd q__ (fun q__ => absurd ((nI_ltI (a := p) (b := 0) (by omega) (by omega)).mp q__) (by omega))) (fun _ => ?_)
  refine r_iload_n 5 rfl 0 dX9_isParish_4 rfl rfl ?_
  refine r_iconst 6 rfl 3 dX9_isParish_5 rfl ?_
  refine r_icmp_ge 9 13 rfl dX9_isParish_6 rfl (fun q__ => absurd q__ (fun q__ => absurd ((nI_leI (a := 3) (b := p) (by omega) (by omega)).mp q__) (by omega))) (fun _ => ?_)
  refine r_iconst 10 rfl 1 dX9_isParish_9 rfl ?_
  refine r_goto 14 dX9_isParish_10 rfl ?_
  refine r_zreturn rfl rfl dX9_isParish_14 (Nat.le_of_ble_eq_true rfl) (Nat.le_of_ble_eq_true rfl) ?_
  exact k

set_option maxHeartbeats 4000000 in
set_option maxRecDepth 20000 in
theorem c_isPar_f {Q : am_P} {h : Nat → am_E} {n : Nat} {x : Int32} (hx : x.toInt < 0 ∨ 3 ≤ x.toInt) (k : Q (some (.int 0)) h n) : AW mX9_isParish Q 0 (am_ent (am_l mX9_isParish) [.int x]) [] (h) n 0 0 := by
  show AW _ _ 0 [some (.int x)] [] _ _ 0 0
  refine r_iload_n 1 rfl 0 dX9_isParish_0 rfl rfl ?_
  refine r_if_lt 4 13 rfl dX9_isParish_1 rfl (fun c1 => ?_) (fun c1 => ?_)
  · replace c1 : x.toInt < (0 : Int) := Int32.lt_iff_toInt_lt.mp c1
    refine r_iconst 14 rfl 0 dX9_isParish_13 rfl ?_
    refine r_zreturn rfl rfl dX9_isParish_14 (Nat.le_of_ble_eq_true rfl) (Nat.le_of_ble_eq_true rfl) ?_
    exact k
  · replace c1 : ¬ x.toInt < (0 : Int) := fun q__ => c1 (Int32.lt_iff_toInt_lt.mpr q__)
    refine r_iload_n 5 rfl 0 dX9_isParish_4 rfl rfl ?_
    refine r_iconst 6 rfl 3 dX9_isParish_5 rfl ?_
    refine r_icmp_ge 9 13 rfl dX9_isParish_6 rfl (fun c6 => ?_) (fun c6 => ?_)
    · replace c6 : (3 : Int) ≤ x.toInt := Int32.le_iff_toInt_le.mp c6
      refine r_iconst 14 rfl 0 dX9_isParish_13 rfl ?_
      refine r_zreturn rfl rfl dX9_isParish_14 (Nat.le_of_ble_eq_true rfl) (Nat.le_of_ble_eq_true rfl) ?_
      exact k
    · replace c6 : ¬ (3 : Int) ≤ x.toInt := fun q__ => c6 (Int32.le_iff_toInt_le.mpr q__)
      exfalso; omega

set_option maxHeartbeats 4000000 in
set_option maxRecDepth 20000 in
theorem c_isOpen_t {Q : am_P} {z : am_Z} {m : Nat → Nat → Int32} {n : Nat} {D : Nat → Nat → Nat} (hC : C9 z m D) {c : Nat} (hc : c < 8) (hv : D 0 c = 0) (k : Q (some (.int 1)) (wd z m) n) : AW mX7_isOpen Q 0 (am_ent (am_l mX7_isOpen) [.ref 4, .int (nI c)]) [] (wd z m) n 0 0 := by
  show AW _ _ 0 [some (.ref 4), some (.int (nI c))] [] _ _ 0 0
  obtain ⟨hg, hfd, hf3, hf0, hns, hn6, hsd, hsb, hwi, hw4, hfr, hr1, hhr, hh⟩ := id hC
  have hgc := (hg c hc).2
  refine r_aload_n 1 rfl 0 dX7_isOpen_0 rfl rfl ?_
  refine r_getf (v := .ref 5) (k := 0) 4 rfl dX7_isOpen_1 (gf_X7_9_7 rfl) rfl rfl ?_
  refine r_iload_n 5 rfl 1 dX7_isOpen_4 rfl rfl ?_
  refine r_iald (f := m 5) 6 rfl c dX7_isOpen_5 rfl rfl (by omega) (by decide) ?_
  rw [show (m 5) c = nI (D 0 c) from (hg c hc).1]
  refine r_if_ne 9 13 rfl dX7_isOpen_6 rfl (fun q__ => absurd ((nI_eq (a := (D 0 c)) (b := 0) (by omega) (by omega)).mpr (by omega)) q__) (fun _ => ?_)
  refine r_iconst 10 rfl 1 dX7_isOpen_9 rfl ?_
  refine r_goto 14 dX7_isOpen_10 rfl ?_
  refine r_zreturn rfl rfl dX7_isOpen_14 (Nat.le_of_ble_eq_true rfl) (Nat.le_of_ble_eq_true rfl) ?_
  exact k

set_option maxHeartbeats 4000000 in
set_option maxRecDepth 20000 in
theorem c_isOpen_f {Q : am_P} {z : am_Z} {m : Nat → Nat → Int32} {n : Nat} {D : Nat → Nat → Nat} (hC : C9 z m D) {c : Nat} (hc : c < 8) (hv : ¬ D 0 c = 0) (k : Q (some (.int 0)) (wd z m) n) : AW mX7_isOpen Q 0 (am_ent (am_l mX7_isOpen) [.ref 4, .int (nI c)]) [] (wd z m) n 0 0 := by
  show AW _ _ 0 [some (.ref 4), some (.int (nI c))] [] _ _ 0 0
  obtain ⟨hg, hfd, hf3, hf0, hns, hn6, hsd, hsb, hwi, hw4, hfr, hr1, hhr, hh⟩ := id hC
  have hgc := (hg c hc).2
  refine r_aload_n 1 rfl 0 dX7_isOpen_0 rfl rfl ?_
  refine r_getf (v := .ref 5) (k := 0) 4 rfl dX7_isOpen_1 (gf_X7_9_7 rfl) rfl rfl ?_
  refine r_iload_n 5 rfl 1 dX7_isOpen_4 rfl rfl ?_
  refine r_iald (f := m 5) 6 rfl c dX7_isOpen_5 rfl rfl (by omega) (by decide) ?_
  rw [show (m 5) c = nI (D 0 c) from (hg c hc).1]
  refine r_if_ne 9 13 rfl dX7_isOpen_6 rfl (fun _ => ?_) (fun q__ => absurd q__ (fun q__ => absurd ((nI_eq (a := (D 0 c)) (b := 0) (by omega) (by omega)).mp q__) (by omega)))
  refine r_iconst 14 rfl 0 dX7_isOpen_13 rfl ?_
  refine r_zreturn rfl rfl dX7_isOpen_14 (Nat.le_of_ble_eq_true rfl) (Nat.le_of_ble_eq_true rfl) ?_
  exact k

set_option maxHeartbeats 4000000 in
set_option maxRecDepth 20000 in
theorem c_isWall_t {Q : am_P} {z : am_Z} {m : Nat → Nat → Int32} {n : Nat} {D : Nat → Nat → Nat} (hC : C9 z m D) {c : Nat} (hc : c < 8) (hv : D 0 c = 1) (k : Q (some (.int 1)) (wd z m) n) : AW mX7_isWall Q 0 (am_ent (am_l mX7_isWall) [.ref 4, .int (nI c)]) [] (wd z m) n 0 0 := by
  show AW _ _ 0 [some (.ref 4), some (.int (nI c))] [] _ _ 0 0
  obtain ⟨hg, hfd, hf3, hf0, hns, hn6, hsd, hsb, hwi, hw4, hfr, hr1, hhr, hh⟩ := id hC
  have hgc := (hg c hc).2
  refine r_aload_n 1 rfl 0 dX7_isWall_0 rfl rfl ?_
  refine r_getf (v := .ref 5) (k := 0) 4 rfl dX7_isWall_1 (gf_X7_9_7 rfl) rfl rfl ?_
  refine r_iload_n 5 rfl 1 dX7_isWall_4 rfl rfl ?_
  refine r_iald (f := m 5) 6 rfl c dX7_isWall_5 rfl rfl (by omega) (by decide) ?_
  rw [show (m 5) c = nI (D 0 c) from (hg c hc).1]
  refine r_iconst 7 rfl 1 dX7_isWall_6 rfl ?_
  refine r_icmp_ne 10 14 rfl dX7_isWall_7 rfl (fun q__ => absurd ((nI_eq (a := (D 0 c)) (b := 1) (by omega) (by omega)).mpr (by omega)) q__) (fun _ => ?_)
  refine r_iconst 11 rfl 1 dX7_isWall_10 rfl ?_
  refine r_goto 15 dX7_isWall_11 rfl ?_
  refine r_zreturn rfl rfl dX7_isWall_15 (Nat.le_of_ble_eq_true rfl) (Nat.le_of_ble_eq_true rfl) ?_
  exact k

set_option maxHeartbeats 4000000 in
set_option maxRecDepth 20000 in
theorem c_isWall_f {Q : am_P} {z : am_Z} {m : Nat → Nat → Int32} {n : Nat} {D : Nat → Nat → Nat} (hC : C9 z m D) {c : Nat} (hc : c < 8) (hv : ¬ D 0 c = 1) (k : Q (some (.int 0)) (wd z m) n) : AW mX7_isWall Q 0 (am_ent (am_l mX7_isWall) [.ref 4, .int (nI c)]) [] (wd z m) n 0 0 := by
  show AW _ _ 0 [some (.ref 4), some (.int (nI c))] [] _ _ 0 0
  obtain ⟨hg, hfd, hf3, hf0, hns, hn6, hsd, hsb, hwi, hw4, hfr, hr1, hhr, hh⟩ := id hC
  have hgc := (hg c hc).2
  refine r_aload_n 1 rfl 0 dX7_isWall_0 rfl rfl ?_
  refine r_getf (v := .ref 5) (k := 0) 4 rfl dX7_isWall_1 (gf_X7_9_7 rfl) rfl rfl ?_
  refine r_iload_n 5 rfl 1 dX7_isWall_4 rfl rfl ?_
  refine r_iald (f := m 5) 6 rfl c dX7_isWall_5 rfl rfl (by omega) (by decide) ?_
  rw [show (m 5) c = nI (D 0 c) from (hg c hc).1]
  refine r_iconst 7 rfl 1 dX7_isWall_6 rfl ?_
  refine r_icmp_ne 10 14 rfl dX7_isWall_7 rfl (fun _ => ?_) (fun q__ => absurd q__ (fun q__ => absurd ((nI_eq (a := (D 0 c)) (b := 1) (by omega) (by omega)).mp q__) (by omega)))
  refine r_iconst 15 rfl 0 dX7_isWall_14 rfl ?_
  refine r_zreturn rfl rfl dX7_isWall_15 (Nat.le_of_ble_eq_true rfl) (Nat.le_of_ble_eq_true rfl) ?_
  exact k

def TC (D : Nat → Nat → Nat) (p : Int32) (c w : Nat) : Int32 := if w = 0 then nI (D 0 c) else if w = 1 then WH D c else if w = 2 then nI (MO D c) else if w = 3 then p else BY D c

set_option maxHeartbeats 4000000 in
set_option maxRecDepth 20000 in
theorem c_toc_0 {Q : am_P} {z : am_Z} {m : Nat → Nat → Int32} {n : Nat} {D : Nat → Nat → Nat} (hC : C9 z m D) (hA : AIR m D) {c : Nat} (hc : c < 8) (k : Q (some (.int (nI (D 0 c)))) (wd z m) n) : AW mX9_tellOfCell Q 0 (am_ent (am_l mX9_tellOfCell) [.ref 1, .int (nI c), .int 0]) [] (wd z m) n 0 0 := by
  show AW _ _ 0 [some (.ref 1), some (.int (nI c)), some (.int 0)] [] _ _ 0 0
  obtain ⟨hg, hfd, hf3, hf0, hns, hn6, hsd, hsb, hwi, hw4, hfr, hr1, hhr, hh⟩ := id hC
  refine r_iload_n 1 rfl 2 dX9_tellOfCell_0 rfl rfl ?_
  refine r_tabIn 32 dX9_tellOfCell_1 (by decide) (by decide) rfl rfl ?_
  refine r_aload_n 33 rfl 0 dX9_tellOfCell_32 rfl rfl ?_
  refine r_getf (v := .ref 4) (k := 1) 36 rfl dX9_tellOfCell_33 (gf_X9_19_9 rfl) rfl rfl ?_
  refine r_getf (v := .ref 5) (k := 0) 39 rfl dX9_tellOfCell_36 (gf_X9_295_7 rfl) rfl rfl ?_
  refine r_iload_n 40 rfl 1 dX9_tellOfCell_39 rfl rfl ?_
  refine r_iald (f := m 5) 41 rfl c dX9_tellOfCell_40 rfl rfl (by omega) (by decide) ?_
  rw [show (m 5) c = nI (D 0 c) from (hg c hc).1]
  refine r_ireturn rfl dX9_tellOfCell_41 (Nat.le_of_ble_eq_true rfl) (Nat.le_of_ble_eq_true rfl) ?_
  exact k

set_option maxHeartbeats 4000000 in
set_option maxRecDepth 20000 in
theorem c_toc_1 {Q : am_P} {z : am_Z} {m : Nat → Nat → Int32} {n : Nat} {D : Nat → Nat → Nat} (hC : C9 z m D) (hA : AIR m D) {c : Nat} (hc : c < 8) (k : Q (some (.int (WH D c))) (wd z m) n) : AW mX9_tellOfCell Q 0 (am_ent (am_l mX9_tellOfCell) [.ref 1, .int (nI c), .int 1]) [] (wd z m) n 0 0 := by
  show AW _ _ 0 [some (.ref 1), some (.int (nI c)), some (.int 1)] [] _ _ 0 0
  obtain ⟨hg, hfd, hf3, hf0, hns, hn6, hsd, hsb, hwi, hw4, hfr, hr1, hhr, hh⟩ := id hC
  refine r_iload_n 1 rfl 2 dX9_tellOfCell_0 rfl rfl ?_
  refine r_tabIn 42 dX9_tellOfCell_1 (by decide) (by decide) rfl rfl ?_
  refine r_aload_n 43 rfl 0 dX9_tellOfCell_42 rfl rfl ?_
  refine r_getf (v := .ref 28) (k := 6) 46 rfl dX9_tellOfCell_43 (gf_X9_45_9 rfl) rfl rfl ?_
  refine r_getf (v := .ref 31) (k := 2) 49 rfl dX9_tellOfCell_46 (gf_X9_183_0 rfl) rfl rfl ?_
  refine r_iload_n 50 rfl 1 dX9_tellOfCell_49 rfl rfl ?_
  refine r_iald (f := m 31) 51 rfl c dX9_tellOfCell_50 rfl rfl (by omega) (by decide) ?_
  rw [show (m 31) c = WH D c from (hA c hc).2.2]
  refine r_ireturn rfl dX9_tellOfCell_51 (Nat.le_of_ble_eq_true rfl) (Nat.le_of_ble_eq_true rfl) ?_
  exact k

set_option maxHeartbeats 4000000 in
set_option maxRecDepth 20000 in
theorem c_toc_2 {Q : am_P} {z : am_Z} {m : Nat → Nat → Int32} {n : Nat} {D : Nat → Nat → Nat} (hC : C9 z m D) (hA : AIR m D) {c : Nat} (hc : c < 8) (k : Q (some (.int (nI (MO D c)))) (wd z m) n) : AW mX9_tellOfCell Q 0 (am_ent (am_l mX9_tellOfCell) [.ref 1, .int (nI c), .int 2]) [] (wd z m) n 0 0 := by
  show AW _ _ 0 [some (.ref 1), some (.int (nI c)), some (.int 2)] [] _ _ 0 0
  obtain ⟨hg, hfd, hf3, hf0, hns, hn6, hsd, hsb, hwi, hw4, hfr, hr1, hhr, hh⟩ := id hC
  refine r_iload_n 1 rfl 2 dX9_tellOfCell_0 rfl rfl ?_
  refine r_tabIn 52 dX9_tellOfCell_1 (by decide) (by decide) rfl rfl ?_
  refine r_aload_n 53 rfl 0 dX9_tellOfCell_52 rfl rfl ?_
  refine r_getf (v := .ref 28) (k := 6) 56 rfl dX9_tellOfCell_53 (gf_X9_45_9 rfl) rfl rfl ?_
  refine r_getf (v := .ref 29) (k := 0) 59 rfl dX9_tellOfCell_56 (gf_X9_298_0 rfl) rfl rfl ?_
  refine r_iload_n 60 rfl 1 dX9_tellOfCell_59 rfl rfl ?_
  refine r_iald (f := m 29) 61 rfl c dX9_tellOfCell_60 rfl rfl (by omega) (by decide) ?_
  rw [show (m 29) c = nI (MO D c) from (hA c hc).1]
  refine r_ireturn rfl dX9_tellOfCell_61 (Nat.le_of_ble_eq_true rfl) (Nat.le_of_ble_eq_true rfl) ?_
  exact k

set_option maxHeartbeats 4000000 in
set_option maxRecDepth 20000 in
theorem c_toc_3 {Q : am_P} {z : am_Z} {m : Nat → Nat → Int32} {n : Nat} {D : Nat → Nat → Nat} (hC : C9 z m D) (hA : AIR m D) {c : Nat} (hc : c < 8) (k : Q (some (.int (m 10 c))) (wd z m) n) : AW mX9_tellOfCell Q 0 (am_ent (am_l mX9_tellOfCell) [.ref 1, .int (nI c), .int 3]) [] (wd z m) n 0 0 := by
  show AW _ _ 0 [some (.ref 1), some (.int (nI c)), some (.int 3)] [] _ _ 0 0
  obtain ⟨hg, hfd, hf3, hf0, hns, hn6, hsd, hsb, hwi, hw4, hfr, hr1, hhr, hh⟩ := id hC
  refine r_iload_n 1 rfl 2 dX9_tellOfCell_0 rfl rfl ?_
  refine r_tabIn 62 dX9_tellOfCell_1 (by decide) (by decide) rfl rfl ?_
  refine r_aload_n 63 rfl 0 dX9_tellOfCell_62 rfl rfl ?_
  refine r_getf (v := .ref 7) (k := 3) 66 rfl dX9_tellOfCell_63 (gf_X9_32_9 rfl) rfl rfl ?_
  refine r_getf (v := .ref 10) (k := 6) 69 rfl dX9_tellOfCell_66 (gf_X9_180_5 rfl) rfl rfl ?_
  refine r_iload_n 70 rfl 1 dX9_tellOfCell_69 rfl rfl ?_
  refine r_iald (f := m 10) 71 rfl c dX9_tellOfCell_70 rfl rfl (by omega) (by decide) ?_
  refine r_ireturn rfl dX9_tellOfCell_71 (Nat.le_of_ble_eq_true rfl) (Nat.le_of_ble_eq_true rfl) ?_
  exact k

set_option maxHeartbeats 4000000 in
set_option maxRecDepth 20000 in
theorem c_toc_4 {Q : am_P} {z : am_Z} {m : Nat → Nat → Int32} {n : Nat} {D : Nat → Nat → Nat} (hC : C9 z m D) (hA : AIR m D) {c : Nat} (hc : c < 8) (k : Q (some (.int (BY D c))) (wd z m) n) : AW mX9_tellOfCell Q 0 (am_ent (am_l mX9_tellOfCell) [.ref 1, .int (nI c), .int 4]) [] (wd z m) n 0 0 := by
  show AW _ _ 0 [some (.ref 1), some (.int (nI c)), some (.int 4)] [] _ _ 0 0
  obtain ⟨hg, hfd, hf3, hf0, hns, hn6, hsd, hsb, hwi, hw4, hfr, hr1, hhr, hh⟩ := id hC
  refine r_iload_n 1 rfl 2 dX9_tellOfCell_0 rfl rfl ?_
  refine r_tabOut 72 dX9_tellOfCell_1 (by decide) rfl ?_
  refine r_aload_n 73 rfl 0 dX9_tellOfCell_72 rfl rfl ?_
  refine r_getf (v := .ref 28) (k := 6) 76 rfl dX9_tellOfCell_73 (gf_X9_45_9 rfl) rfl rfl ?_
  refine r_getf (v := .ref 30) (k := 1) 79 rfl dX9_tellOfCell_76 (gf_X9_301_0 rfl) rfl rfl ?_
  refine r_iload_n 80 rfl 1 dX9_tellOfCell_79 rfl rfl ?_
  refine r_iald (f := m 30) 81 rfl c dX9_tellOfCell_80 rfl rfl (by omega) (by decide) ?_
  rw [show (m 30) c = BY D c from (hA c hc).2.1]
  refine r_ireturn rfl dX9_tellOfCell_81 (Nat.le_of_ble_eq_true rfl) (Nat.le_of_ble_eq_true rfl) ?_
  exact k

theorem c_toc {Q : am_P} {z : am_Z} {m : Nat → Nat → Int32} {n : Nat} {D : Nat → Nat → Nat} (hC : C9 z m D) (hA : AIR m D) {c w : Nat} (hc : c < 8) (hw : w < 5) (k : Q (some (.int (TC D (m 10 c) c w))) (wd z m) n) : AW mX9_tellOfCell Q 0 (am_ent (am_l mX9_tellOfCell) [.ref 1, .int (nI c), .int (nI w)]) [] (wd z m) n 0 0 := by
  rcases (show w = 0 ∨ w = 1 ∨ w = 2 ∨ w = 3 ∨ w = 4 by omega) with rfl | rfl | rfl | rfl | rfl
  · exact c_toc_0 hC hA hc k
  · exact c_toc_1 hC hA hc k
  · exact c_toc_2 hC hA hc k
  · exact c_toc_3 hC hA hc k
  · exact c_toc_4 hC hA hc k

set_option maxHeartbeats 4000000 in
set_option maxRecDepth 20000 in
theorem c_tce_0 {Q : am_P} {z : am_Z} {m : Nat → Nat → Int32} {n : Nat} {D : Nat → Nat → Nat} (hC : C10 m D) {c : Nat} (hc : c < 8) (k : ∀ m', MIR m' D → ag [43, 44, 45] m m' → Q (some (.int (nI (D 0 c)))) (wd z m') n) : AW mX10_tellCell Q 0 (am_ent (am_l mX10_tellCell) [.ref 37, .int (nI c), .int 0]) [] (wd z m) n 0 0 := by
  show AW _ _ 0 [some (.ref 37), some (.int (nI c)), some (.int 0)] [] _ _ 0 0
  refine r_aload_n 1 rfl 0 dX10_tellCell_0 rfl rfl ?_
  refine q_V 4 0 0 rfl [] rfl dX10_tellCell_1 cl_X10_tellCell__X10_layCells (lk_X10_149 rfl) im_X10_layCells (ci := 10) rfl sl_X10__X10_layCells rfl (Nat.le_of_ble_eq_true rfl) (fun _ _ => Nat.le_of_ble_eq_true rfl) rfl rfl (Nat.le_of_ble_eq_true rfl) (Nat.le_of_ble_eq_true rfl) ?_
  refine c_layC hC (fun m' hM hag => (k_v ?_))
  have hC1 := C10_ag hC hag (by decide)
  have e39 : m' 39 c = nI (D 0 c) := (hC1.1 c hc).1
  have e40 : m' 40 c = m 40 c := by rw [hag 40 (by decide)]
  refine r_iload_n 5 rfl 2 dX10_tellCell_4 rfl rfl ?_
  refine r_tabIn 40 dX10_tellCell_5 (by decide) (by decide) rfl rfl ?_
  refine r_aload_n 41 rfl 0 dX10_tellCell_40 rfl rfl ?_
  refine r_getf (v := .ref 39) (k := 7) 44 rfl dX10_tellCell_41 (gf_X10_13_10 rfl) rfl rfl ?_
  refine r_iload_n 45 rfl 1 dX10_tellCell_44 rfl rfl ?_
  refine r_iald (f := m' 39) 46 rfl c dX10_tellCell_45 rfl rfl (by omega) (by decide) ?_
  rw [show (m' 39) c = nI (D 0 c) from e39]
  refine r_ireturn rfl dX10_tellCell_46 (Nat.le_of_ble_eq_true rfl) (Nat.le_of_ble_eq_true rfl) ?_
  exact k m' hM hag

set_option maxHeartbeats 4000000 in
set_option maxRecDepth 20000 in
theorem c_tce_1 {Q : am_P} {z : am_Z} {m : Nat → Nat → Int32} {n : Nat} {D : Nat → Nat → Nat} (hC : C10 m D) {c : Nat} (hc : c < 8) (k : ∀ m', MIR m' D → ag [43, 44, 45] m m' → Q (some (.int (WH D c))) (wd z m') n) : AW mX10_tellCell Q 0 (am_ent (am_l mX10_tellCell) [.ref 37, .int (nI c), .int 1]) [] (wd z m) n 0 0 := by
  show AW _ _ 0 [some (.ref 37), some (.int (nI c)), some (.int 1)] [] _ _ 0 0
  refine r_aload_n 1 rfl 0 dX10_tellCell_0 rfl rfl ?_
  refine q_V 4 0 0 rfl [] rfl dX10_tellCell_1 cl_X10_tellCell__X10_layCells (lk_X10_149 rfl) im_X10_layCells (ci := 10) rfl sl_X10__X10_layCells rfl (Nat.le_of_ble_eq_true rfl) (fun _ _ => Nat.le_of_ble_eq_true rfl) rfl rfl (Nat.le_of_ble_eq_true rfl) (Nat.le_of_ble_eq_true rfl) ?_
  refine c_layC hC (fun m' hM hag => (k_v ?_))
  have hC1 := C10_ag hC hag (by decide)
  have e39 : m' 39 c = nI (D 0 c) := (hC1.1 c hc).1
  have e40 : m' 40 c = m 40 c := by rw [hag 40 (by decide)]
  refine r_iload_n 5 rfl 2 dX10_tellCell_4 rfl rfl ?_
  refine r_tabIn 47 dX10_tellCell_5 (by decide) (by decide) rfl rfl ?_
  refine r_aload_n 48 rfl 0 dX10_tellCell_47 rfl rfl ?_
  refine r_iload_n 49 rfl 1 dX10_tellCell_48 rfl rfl ?_
  refine q_V 52 0 0 rfl [.int (nI c)] rfl dX10_tellCell_49 cl_X10_tellCell__X10_whose (lk_X10_152 rfl) im_X10_whose (ci := 10) rfl sl_X10__X10_whose rfl (Nat.le_of_ble_eq_true rfl) (fun _ _ => Nat.le_of_ble_eq_true rfl) rfl rfl (Nat.le_of_ble_eq_true rfl) (Nat.le_of_ble_eq_true rfl) ?_
  refine c_who hC1 hM hc (k_i ?_)
  refine r_ireturn rfl dX10_tellCell_52 (Nat.le_of_ble_eq_true rfl) (Nat.le_of_ble_eq_true rfl) ?_
  exact k m' hM hag

set_option maxHeartbeats 4000000 in
set_option maxRecDepth 20000 in
theorem c_tce_2 {Q : am_P} {z : am_Z} {m : Nat → Nat → Int32} {n : Nat} {D : Nat → Nat → Nat} (hC : C10 m D) {c : Nat} (hc : c < 8) (k : ∀ m', MIR m' D → ag [43, 44, 45] m m' → Q (some (.int (nI (MO D c)))) (wd z m') n) : AW mX10_tellCell Q 0 (am_ent (am_l mX10_tellCell) [.ref 37, .int (nI c), .int 2]) [] (wd z m) n 0 0 := by
  show AW _ _ 0 [some (.ref 37), some (.int (nI c)), some (.int 2)] [] _ _ 0 0
  refine r_aload_n 1 rfl 0 dX10_tellCell_0 rfl rfl ?_
  refine q_V 4 0 0 rfl [] rfl dX10_tellCell_1 cl_X10_tellCell__X10_layCells (lk_X10_149 rfl) im_X10_layCells (ci := 10) rfl sl_X10__X10_layCells rfl (Nat.le_of_ble_eq_true rfl) (fun _ _ => Nat.le_of_ble_eq_true rfl) rfl rfl (Nat.le_of_ble_eq_true rfl) (Nat.le_of_ble_eq_true rfl) ?_
  refine c_layC hC (fun m' hM hag => (k_v ?_))
  have hC1 := C10_ag hC hag (by decide)
  have e39 : m' 39 c = nI (D 0 c) := (hC1.1 c hc).1
  have e40 : m' 40 c = m 40 c := by rw [hag 40 (by decide)]
  refine r_iload_n 5 rfl 2 dX10_tellCell_4 rfl rfl ?_
  refine r_tabIn 53 dX10_tellCell_5 (by decide) (by decide) rfl rfl ?_
  refine r_aload_n 54 rfl 0 dX10_tellCell_53 rfl rfl ?_
  refine r_getf (v := .ref 45) (k := 14) 57 rfl dX10_tellCell_54 (gf_X10_31_10 rfl) rfl rfl ?_
  refine r_iload_n 58 rfl 1 dX10_tellCell_57 rfl rfl ?_
  refine r_iald (f := m' 45) 59 rfl c dX10_tellCell_58 rfl rfl (by omega) (by decide) ?_
  rw [show (m' 45) c = nI (MO D c) from (hM c hc).1]
  refine r_ireturn rfl dX10_tellCell_59 (Nat.le_of_ble_eq_true rfl) (Nat.le_of_ble_eq_true rfl) ?_
  exact k m' hM hag

set_option maxHeartbeats 4000000 in
set_option maxRecDepth 20000 in
theorem c_tce_3 {Q : am_P} {z : am_Z} {m : Nat → Nat → Int32} {n : Nat} {D : Nat → Nat → Nat} (hC : C10 m D) {c : Nat} (hc : c < 8) (k : ∀ m', MIR m' D → ag [43, 44, 45] m m' → Q (some (.int (m 40 c))) (wd z m') n) : AW mX10_tellCell Q 0 (am_ent (am_l mX10_tellCell) [.ref 37, .int (nI c), .int 3]) [] (wd z m) n 0 0 := by
  show AW _ _ 0 [some (.ref 37), some (.int (nI c)), some (.int 3)] [] _ _ 0 0
  refine r_aload_n 1 rfl 0 dX10_tellCell_0 rfl rfl ?_
  refine q_V 4 0 0 rfl [] rfl dX10_tellCell_1 cl_X10_tellCell__X10_layCells (lk_X10_149 rfl) im_X10_layCells (ci := 10) rfl sl_X10__X10_layCells rfl (Nat.le_of_ble_eq_true rfl) (fun _ _ => Nat.le_of_ble_eq_true rfl) rfl rfl (Nat.le_of_ble_eq_true rfl) (Nat.le_of_ble_eq_true rfl) ?_
  refine c_layC hC (fun m' hM hag => (k_v ?_))
  have hC1 := C10_ag hC hag (by decide)
  have e39 : m' 39 c = nI (D 0 c) := (hC1.1 c hc).1
  have e40 : m' 40 c = m 40 c := by rw [hag 40 (by decide)]
  refine r_iload_n 5 rfl 2 dX10_tellCell_4 rfl rfl ?_
  refine r_tabIn 60 dX10_tellCell_5 (by decide) (by decide) rfl rfl ?_
  refine r_aload_n 61 rfl 0 dX10_tellCell_60 rfl rfl ?_
  refine r_getf (v := .ref 40) (k := 8) 64 rfl dX10_tellCell_61 (gf_X10_16_10 rfl) rfl rfl ?_
  refine r_iload_n 65 rfl 1 dX10_tellCell_64 rfl rfl ?_
  refine r_iald (f := m' 40) 66 rfl c dX10_tellCell_65 rfl rfl (by omega) (by decide) ?_
  rw [show (m' 40) c = m 40 c from e40]
  refine r_ireturn rfl dX10_tellCell_66 (Nat.le_of_ble_eq_true rfl) (Nat.le_of_ble_eq_true rfl) ?_
  exact k m' hM hag

set_option maxHeartbeats 4000000 in
set_option maxRecDepth 20000 in
theorem c_tce_4 {Q : am_P} {z : am_Z} {m : Nat → Nat → Int32} {n : Nat} {D : Nat → Nat → Nat} (hC : C10 m D) {c : Nat} (hc : c < 8) (k : ∀ m', MIR m' D → ag [43, 44, 45] m m' → Q (some (.int (BY D c))) (wd z m') n) : AW mX10_tellCell Q 0 (am_ent (am_l mX10_tellCell) [.ref 37, .int (nI c), .int 4]) [] (wd z m) n 0 0 := by
  show AW _ _ 0 [some (.ref 37), some (.int (nI c)), some (.int 4)] [] _ _ 0 0
  refine r_aload_n 1 rfl 0 dX10_tellCell_0 rfl rfl ?_
  refine q_V 4 0 0 rfl [] rfl dX10_tellCell_1 cl_X10_tellCell__X10_layCells (lk_X10_149 rfl) im_X10_layCells (ci := 10) rfl sl_X10__X10_layCells rfl (Nat.le_of_ble_eq_true rfl) (fun _ _ => Nat.le_of_ble_eq_true rfl) rfl rfl (Nat.le_of_ble_eq_true rfl) (Nat.le_of_ble_eq_true rfl) ?_
  refine c_layC hC (fun m' hM hag => (k_v ?_))
  have hC1 := C10_ag hC hag (by decide)
  have e39 : m' 39 c = nI (D 0 c) := (hC1.1 c hc).1
  have e40 : m' 40 c = m 40 c := by rw [hag 40 (by decide)]
  refine r_iload_n 5 rfl 2 dX10_tellCell_4 rfl rfl ?_
  refine r_tabIn 67 dX10_tellCell_5 (by decide) (by decide) rfl rfl ?_
  refine r_aload_n 68 rfl 0 dX10_tellCell_67 rfl rfl ?_
  refine r_getf (v := .ref 44) (k := 13) 71 rfl dX10_tellCell_68 (gf_X10_28_10 rfl) rfl rfl ?_
  refine r_iload_n 72 rfl 1 dX10_tellCell_71 rfl rfl ?_
  refine r_iald (f := m' 44) 73 rfl c dX10_tellCell_72 rfl rfl (by omega) (by decide) ?_
  rw [show (m' 44) c = BY D c from (hM c hc).2]
  refine r_ireturn rfl dX10_tellCell_73 (Nat.le_of_ble_eq_true rfl) (Nat.le_of_ble_eq_true rfl) ?_
  exact k m' hM hag

theorem c_tce {Q : am_P} {z : am_Z} {m : Nat → Nat → Int32} {n : Nat} {D : Nat → Nat → Nat} (hC : C10 m D) {c w : Nat} (hc : c < 8) (hw : w < 5) (k : ∀ m', MIR m' D → ag [43, 44, 45] m m' → Q (some (.int (TC D (m 40 c) c w))) (wd z m') n) : AW mX10_tellCell Q 0 (am_ent (am_l mX10_tellCell) [.ref 37, .int (nI c), .int (nI w)]) [] (wd z m) n 0 0 := by
  rcases (show w = 0 ∨ w = 1 ∨ w = 2 ∨ w = 3 ∨ w = 4 by omega) with rfl | rfl | rfl | rfl | rfl
  · exact c_tce_0 hC hc k
  · exact c_tce_1 hC hc k
  · exact c_tce_2 hC hc k
  · exact c_tce_3 hC hc k
  · exact c_tce_4 hC hc k

set_option maxHeartbeats 4000000 in
set_option maxRecDepth 20000 in
theorem c_tce_o {Q : am_P} {z : am_Z} {m : Nat → Nat → Int32} {n : Nat} {D : Nat → Nat → Nat} (hC : C10 m D) {c : Nat} (hc : c < 8) {y : Int32} (hy : y.toInt < 0 ∨ 5 ≤ y.toInt) (k : ∀ m', ag [43, 44, 45] m m' → Q (some (.int (-102))) (wd z m') n) : AW mX10_tellCell Q 0 (am_ent (am_l mX10_tellCell) [.ref 37, .int (nI c), .int y]) [] (wd z m) n 0 0 := by
  show AW _ _ 0 [some (.ref 37), some (.int (nI c)), some (.int y)] [] _ _ 0 0
  refine r_aload_n 1 rfl 0 dX10_tellCell_0 rfl rfl ?_
  refine q_V 4 0 0 rfl [] rfl dX10_tellCell_1 cl_X10_tellCell__X10_layCells (lk_X10_149 rfl) im_X10_layCells (ci := 10) rfl sl_X10__X10_layCells rfl (Nat.le_of_ble_eq_true rfl) (fun _ _ => Nat.le_of_ble_eq_true rfl) rfl rfl (Nat.le_of_ble_eq_true rfl) (Nat.le_of_ble_eq_true rfl) ?_
  refine c_layC hC (fun m' hM hag => (k_v ?_))
  refine r_iload_n 5 rfl 2 dX10_tellCell_4 rfl rfl ?_
  refine r_tabOut 74 dX10_tellCell_5 (by omega) rfl ?_
  refine r_bipush 76 rfl (-102) dX10_tellCell_74 (by decide) ?_
  refine r_ireturn rfl dX10_tellCell_76 (Nat.le_of_ble_eq_true rfl) (Nat.le_of_ble_eq_true rfl) ?_
  exact k m' hag

set_option maxHeartbeats 4000000 in
set_option maxRecDepth 20000 in
theorem c9_cell_n {Q : am_P} {z : am_Z} {m : Nat → Nat → Int32} {n : Nat} {D : Nat → Nat → Nat} (hC : C9 z m D){x : Int32} (hx : D 7 0 = 0 ∨ x.toInt < 0 ∨ 8 ≤ x.toInt) {y : Int32} (k : Q (some (.int (-101))) (wd z m) n) : AW mX9_cell Q 0 (am_ent (am_l mX9_cell) [.ref 1, .int x, .int y]) [] (wd z m) n 0 0 := by
  show AW _ _ 0 [some (.ref 1), some (.int x), some (.int y)] [] _ _ 0 0
  obtain ⟨hg, hfd, hf3, hf0, hns, hn6, hsd, hsb, hwi, hw4, hfr, hr1, hhr, hh⟩ := id hC
  refine r_aload_n 1 rfl 0 dX9_cell_0 rfl rfl ?_
  refine r_iload_n 2 rfl 1 dX9_cell_1 rfl rfl ?_
  refine q_V 5 0 0 rfl [.int x] rfl dX9_cell_2 cl_X9_cell__X9_isCell (lk_X9_99 rfl) im_X9_isCell (ci := 9) rfl sl_X9__X9_isCell rfl (Nat.le_of_ble_eq_true rfl) (fun _ _ => Nat.le_of_ble_eq_true rfl) rfl rfl (Nat.le_of_ble_eq_true rfl) (Nat.le_of_ble_eq_true rfl) ?_
  refine c_isCell_f hfd hf3 hx (k_i ?_)
  refine r_if_ne 8 11 rfl dX9_cell_5 rfl (fun q__ => absurd (by decide) q__) (fun _ => ?_)
  refine r_bipush 10 rfl (-101) dX9_cell_8 (by decide) ?_
  refine r_ireturn rfl dX9_cell_10 (Nat.le_of_ble_eq_true rfl) (Nat.le_of_ble_eq_true rfl) ?_
  exact k

set_option maxHeartbeats 4000000 in
set_option maxRecDepth 20000 in
theorem c9_cell_o {Q : am_P} {z : am_Z} {m : Nat → Nat → Int32} {n : Nat} {D : Nat → Nat → Nat} (hC : C9 z m D){c : Nat} (hc : c < 8) (hf1 : 1 ≤ D 7 0) {y : Int32} (hy : y.toInt < 0 ∨ 5 ≤ y.toInt) (k : Q (some (.int (-102))) (wd z m) n) : AW mX9_cell Q 0 (am_ent (am_l mX9_cell) [.ref 1, .int (nI c), .int y]) [] (wd z m) n 0 0 := by
  show AW _ _ 0 [some (.ref 1), some (.int (nI c)), some (.int y)] [] _ _ 0 0
  obtain ⟨hg, hfd, hf3, hf0, hns, hn6, hsd, hsb, hwi, hw4, hfr, hr1, hhr, hh⟩ := id hC
  refine r_aload_n 1 rfl 0 dX9_cell_0 rfl rfl ?_
  refine r_iload_n 2 rfl 1 dX9_cell_1 rfl rfl ?_
  refine q_V 5 0 0 rfl [.int (nI c)] rfl dX9_cell_2 cl_X9_cell__X9_isCell (lk_X9_99 rfl) im_X9_isCell (ci := 9) rfl sl_X9__X9_isCell rfl (Nat.le_of_ble_eq_true rfl) (fun _ _ => Nat.le_of_ble_eq_true rfl) rfl rfl (Nat.le_of_ble_eq_true rfl) (Nat.le_of_ble_eq_true rfl) ?_
  refine c_isCell_t hc hfd hf1 hf3 (k_i ?_)
  refine r_if_ne 8 11 rfl dX9_cell_5 rfl (fun _ => ?_) (fun q__ => absurd q__ (by decide))
  refine r_iload_n 12 rfl 2 dX9_cell_11 rfl rfl ?_
  refine r_if_lt 15 20 rfl dX9_cell_12 rfl (fun c12 => ?_) (fun c12 => ?_)
  · replace c12 : y.toInt < (0 : Int) := Int32.lt_iff_toInt_lt.mp c12
    refine r_bipush 22 rfl (-102) dX9_cell_20 (by decide) ?_
    refine r_ireturn rfl dX9_cell_22 (Nat.le_of_ble_eq_true rfl) (Nat.le_of_ble_eq_true rfl) ?_
    exact k
  · replace c12 : ¬ y.toInt < (0 : Int) := fun q__ => c12 (Int32.lt_iff_toInt_lt.mpr q__)
    refine r_iload_n 16 rfl 2 dX9_cell_15 rfl rfl ?_
    refine r_iconst 17 rfl 4 dX9_cell_16 rfl ?_
    refine r_icmp_le 20 23 rfl dX9_cell_17 rfl (fun c17 => ?_) (fun c17 => ?_)
    · replace c17 : y.toInt ≤ (4 : Int) := Int32.le_iff_toInt_le.mp c17
      exfalso; omega
    · replace c17 : ¬ y.toInt ≤ (4 : Int) := fun q__ => c17 (Int32.le_iff_toInt_le.mpr q__)
      refine r_bipush 22 rfl (-102) dX9_cell_20 (by decide) ?_
      refine r_ireturn rfl dX9_cell_22 (Nat.le_of_ble_eq_true rfl) (Nat.le_of_ble_eq_true rfl) ?_
      exact k

set_option maxHeartbeats 4000000 in
set_option maxRecDepth 20000 in
theorem c9_cell_t {Q : am_P} {z : am_Z} {m : Nat → Nat → Int32} {n : Nat} {D : Nat → Nat → Nat} (hC : C9 z m D){c : Nat} (hc : c < 8) (hf1 : 1 ≤ D 7 0) {w : Nat} (hw : w < 5) (k : ∀ m', ag [29, 30, 31, 32] m m' → Q (some (.int (TC D (m 10 c) c w))) (wd z m') n) : AW mX9_cell Q 0 (am_ent (am_l mX9_cell) [.ref 1, .int (nI c), .int (nI w)]) [] (wd z m) n 0 0 := by
  show AW _ _ 0 [some (.ref 1), some (.int (nI c)), some (.int (nI w))] [] _ _ 0 0
  obtain ⟨hg, hfd, hf3, hf0, hns, hn6, hsd, hsb, hwi, hw4, hfr, hr1, hhr, hh⟩ := id hC
  refine r_aload_n 1 rfl 0 dX9_cell_0 rfl rfl ?_
  refine r_iload_n 2 rfl 1 dX9_cell_1 rfl rfl ?_
  refine q_V 5 0 0 rfl [.int (nI c)] rfl dX9_cell_2 cl_X9_cell__X9_isCell (lk_X9_99 rfl) im_X9_isCell (ci := 9) rfl sl_X9__X9_isCell rfl (Nat.le_of_ble_eq_true rfl) (fun _ _ => Nat.le_of_ble_eq_true rfl) rfl rfl (Nat.le_of_ble_eq_true rfl) (Nat.le_of_ble_eq_true rfl) ?_
  refine c_isCell_t hc hfd hf1 hf3 (k_i ?_)
  refine r_if_ne 8 11 rfl dX9_cell_5 rfl (fun _ => ?_) (fun q__ => absurd q__ (by decide))
  refine r_iload_n 12 rfl 2 dX9_cell_11 rfl rfl ?_
  refine r_if_lt 15 20 rfl dX9_cell_12 rfl (fun q__ => absurd q__ (fun q__ => absurd ((nI_ltI (a := w) (b := 0) (by omega) (by omega)).mp q__) (by omega))) (fun _ => ?_)
  refine r_iload_n 16 rfl 2 dX9_cell_15 rfl rfl ?_
  refine r_iconst 17 rfl 4 dX9_cell_16 rfl ?_
  refine r_icmp_le 20 23 rfl dX9_cell_17 rfl (fun _ => ?_) (fun q__ => absurd ((nI_leI (a := w) (b := 4) (by omega) (by omega)).mpr (by omega)) q__)
  refine r_aload_n 24 rfl 0 dX9_cell_23 rfl rfl ?_
  refine q_V 27 0 0 rfl [] rfl dX9_cell_24 cl_X9_cell__X9_settleNow (lk_X9_103 rfl) im_X9_settleNow (ci := 9) rfl sl_X9__X9_settleNow rfl (Nat.le_of_ble_eq_true rfl) (fun _ _ => Nat.le_of_ble_eq_true rfl) rfl rfl (Nat.le_of_ble_eq_true rfl) (Nat.le_of_ble_eq_true rfl) ?_
  refine c_settleNow hC (fun m' hA hag => (k_v ?_))
  have e10 : m' 10 = m 10 := hag 10 (by decide)
  refine r_aload_n 28 rfl 0 dX9_cell_27 rfl rfl ?_
  refine r_iload_n 29 rfl 1 dX9_cell_28 rfl rfl ?_
  refine r_iload_n 30 rfl 2 dX9_cell_29 rfl rfl ?_
  refine q_V 33 0 0 rfl [.int (nI c), .int (nI w)] rfl dX9_cell_30 cl_X9_cell__X9_tellOfCell (lk_X9_106 rfl) im_X9_tellOfCell (ci := 9) rfl sl_X9__X9_tellOfCell rfl (Nat.le_of_ble_eq_true rfl) (fun _ _ => Nat.le_of_ble_eq_true rfl) rfl rfl (Nat.le_of_ble_eq_true rfl) (Nat.le_of_ble_eq_true rfl) ?_
  refine c_toc (C9_ag hC hag (by decide)) hA hc hw (k_i ?_)
  rw [e10]
  refine r_ireturn rfl dX9_cell_33 (Nat.le_of_ble_eq_true rfl) (Nat.le_of_ble_eq_true rfl) ?_
  exact k m' hag

set_option maxHeartbeats 4000000 in
set_option maxRecDepth 20000 in
theorem c10_cell_n {Q : am_P} {z : am_Z} {m : Nat → Nat → Int32} {n : Nat} {D : Nat → Nat → Nat} (hC : C10 m D){x : Int32} (hx : D 7 0 = 0 ∨ x.toInt < 0 ∨ 8 ≤ x.toInt) {y : Int32} (k : Q (some (.int (-101))) (wd z m) n) : AW mX10_cell Q 0 (am_ent (am_l mX10_cell) [.ref 37, .int x, .int y]) [] (wd z m) n 0 0 := by
  show AW _ _ 0 [some (.ref 37), some (.int x), some (.int y)] [] _ _ 0 0
  obtain ⟨hg, hfd, hf3, hf0, hns, hn7, hmr, hwi, hw4, hfr, hr1, hhr, hh⟩ := id hC
  refine r_aload_n 1 rfl 0 dX10_cell_0 rfl rfl ?_
  refine r_iload_n 2 rfl 1 dX10_cell_1 rfl rfl ?_
  refine q_V 5 0 0 rfl [.int x] rfl dX10_cell_2 cl_X10_cell__X10_isCell (lk_X10_119 rfl) im_X10_isCell (ci := 10) rfl sl_X10__X10_isCell rfl (Nat.le_of_ble_eq_true rfl) (fun _ _ => Nat.le_of_ble_eq_true rfl) rfl rfl (Nat.le_of_ble_eq_true rfl) (Nat.le_of_ble_eq_true rfl) ?_
  refine c10_isCell_f hfd hf3 hx (k_i ?_)
  refine r_if_eq 8 17 rfl dX10_cell_5 rfl (fun _ => ?_) (fun q__ => absurd (by decide) q__)
  refine r_bipush 19 rfl (-101) dX10_cell_17 (by decide) ?_
  refine r_ireturn rfl dX10_cell_19 (Nat.le_of_ble_eq_true rfl) (Nat.le_of_ble_eq_true rfl) ?_
  exact k

set_option maxHeartbeats 4000000 in
set_option maxRecDepth 20000 in
theorem c10_cell_o {Q : am_P} {z : am_Z} {m : Nat → Nat → Int32} {n : Nat} {D : Nat → Nat → Nat} (hC : C10 m D){c : Nat} (hc : c < 8) (hf1 : 1 ≤ D 7 0) {y : Int32} (hy : y.toInt < 0 ∨ 5 ≤ y.toInt) (k : ∀ m', ag [43, 44, 45] m m' → Q (some (.int (-102))) (wd z m') n) : AW mX10_cell Q 0 (am_ent (am_l mX10_cell) [.ref 37, .int (nI c), .int y]) [] (wd z m) n 0 0 := by
  show AW _ _ 0 [some (.ref 37), some (.int (nI c)), some (.int y)] [] _ _ 0 0
  obtain ⟨hg, hfd, hf3, hf0, hns, hn7, hmr, hwi, hw4, hfr, hr1, hhr, hh⟩ := id hC
  refine r_aload_n 1 rfl 0 dX10_cell_0 rfl rfl ?_
  refine r_iload_n 2 rfl 1 dX10_cell_1 rfl rfl ?_
  refine q_V 5 0 0 rfl [.int (nI c)] rfl dX10_cell_2 cl_X10_cell__X10_isCell (lk_X10_119 rfl) im_X10_isCell (ci := 10) rfl sl_X10__X10_isCell rfl (Nat.le_of_ble_eq_true rfl) (fun _ _ => Nat.le_of_ble_eq_true rfl) rfl rfl (Nat.le_of_ble_eq_true rfl) (Nat.le_of_ble_eq_true rfl) ?_
  refine c10_isCell_t hc hfd hf1 hf3 (k_i ?_)
  refine r_if_eq 8 17 rfl dX10_cell_5 rfl (fun q__ => absurd q__ (by decide)) (fun _ => ?_)
  refine r_aload_n 9 rfl 0 dX10_cell_8 rfl rfl ?_
  refine r_iload_n 10 rfl 1 dX10_cell_9 rfl rfl ?_
  refine r_iload_n 11 rfl 2 dX10_cell_10 rfl rfl ?_
  refine q_V 14 0 0 rfl [.int (nI c), .int y] rfl dX10_cell_11 cl_X10_cell__X10_tellCell (lk_X10_155 rfl) im_X10_tellCell (ci := 10) rfl sl_X10__X10_tellCell rfl (Nat.le_of_ble_eq_true rfl) (fun _ _ => Nat.le_of_ble_eq_true rfl) rfl rfl (Nat.le_of_ble_eq_true rfl) (Nat.le_of_ble_eq_true rfl) ?_
  refine c_tce_o hC hc hy (fun m' hag => (k_i ?_))
  refine r_goto 19 dX10_cell_14 rfl ?_
  refine r_ireturn rfl dX10_cell_19 (Nat.le_of_ble_eq_true rfl) (Nat.le_of_ble_eq_true rfl) ?_
  exact k m' hag

set_option maxHeartbeats 4000000 in
set_option maxRecDepth 20000 in
theorem c10_cell_t {Q : am_P} {z : am_Z} {m : Nat → Nat → Int32} {n : Nat} {D : Nat → Nat → Nat} (hC : C10 m D){c : Nat} (hc : c < 8) (hf1 : 1 ≤ D 7 0) {w : Nat} (hw : w < 5) (k : ∀ m', ag [43, 44, 45] m m' → Q (some (.int (TC D (m 40 c) c w))) (wd z m') n) : AW mX10_cell Q 0 (am_ent (am_l mX10_cell) [.ref 37, .int (nI c), .int (nI w)]) [] (wd z m) n 0 0 := by
  show AW _ _ 0 [some (.ref 37), some (.int (nI c)), some (.int (nI w))] [] _ _ 0 0
  obtain ⟨hg, hfd, hf3, hf0, hns, hn7, hmr, hwi, hw4, hfr, hr1, hhr, hh⟩ := id hC
  refine r_aload_n 1 rfl 0 dX10_cell_0 rfl rfl ?_
  refine r_iload_n 2 rfl 1 dX10_cell_1 rfl rfl ?_
  refine q_V 5 0 0 rfl [.int (nI c)] rfl dX10_cell_2 cl_X10_cell__X10_isCell (lk_X10_119 rfl) im_X10_isCell (ci := 10) rfl sl_X10__X10_isCell rfl (Nat.le_of_ble_eq_true rfl) (fun _ _ => Nat.le_of_ble_eq_true rfl) rfl rfl (Nat.le_of_ble_eq_true rfl) (Nat.le_of_ble_eq_true rfl) ?_
  refine c10_isCell_t hc hfd hf1 hf3 (k_i ?_)
  refine r_if_eq 8 17 rfl dX10_cell_5 rfl (fun q__ => absurd q__ (by decide)) (fun _ => ?_)
  refine r_aload_n 9 rfl 0 dX10_cell_8 rfl rfl ?_
  refine r_iload_n 10 rfl 1 dX10_cell_9 rfl rfl ?_
  refine r_iload_n 11 rfl 2 dX10_cell_10 rfl rfl ?_
  refine q_V 14 0 0 rfl [.int (nI c), .int (nI w)] rfl dX10_cell_11 cl_X10_cell__X10_tellCell (lk_X10_155 rfl) im_X10_tellCell (ci := 10) rfl sl_X10__X10_tellCell rfl (Nat.le_of_ble_eq_true rfl) (fun _ _ => Nat.le_of_ble_eq_true rfl) rfl rfl (Nat.le_of_ble_eq_true rfl) (Nat.le_of_ble_eq_true rfl) ?_
  refine c_tce hC hc hw (fun m' hM hag => (k_i ?_))
  refine r_goto 19 dX10_cell_14 rfl ?_
  refine r_ireturn rfl dX10_cell_19 (Nat.le_of_ble_eq_true rfl) (Nat.le_of_ble_eq_true rfl) ?_
  exact k m' hag

set_option maxHeartbeats 4000000 in
set_option maxRecDepth 20000 in
theorem P_cell {i : Nat} {z : am_Z} {m : Nat → Nat → Int32} {n : Nat} {D K : Nat → Nat → Nat} (hI : IV i z m n D K) (hi : i + 5 ≤ 2560) (x : Int32) (y : Int32) : AW mX9_cell (PR (i + 5) mX10_cell [.ref 37, .int x, .int y]) 0 (am_ent (am_l mX9_cell) [.ref 1, .int x, .int y]) [] (wd z m) n 0 0 := by
  obtain ⟨h9, h10, hnz, hpg, hop, hnw, hct, him⟩ := id hI
  by_cases hx : D 7 0 = 0 ∨ x.toInt < 0 ∨ 8 ≤ x.toInt
  · exact c9_cell_n h9 hx (PR_i (fun Q2 k => c10_cell_n h10 hx (k _ _ _ _ _ (IV_mono hI (by omega) hi))))
  · have hf1 : 1 ≤ D 7 0 := by omega
    obtain ⟨c, hc, rfl⟩ := (i_cases x 8 (by decide)).resolve_left (by omega)
    rcases i_cases y 5 (by decide) with hy | ⟨w, hw, rfl⟩
    · exact c9_cell_o h9 hc hf1 hy (PR_i (fun Q2 k => c10_cell_o h10 hc hf1 hy (fun m1 hag => k _ _ _ _ _ (IV_mono (IV_ag hI (ag_w hag (by decide))) (by omega) hi))))
    · refine c9_cell_t h9 hc hf1 hw (fun m1 hag => PR_i (fun Q2 k => ?_))
      have hI1 := IV_ag hI (ag_w hag (by decide))
      refine c10_cell_t hI1.2.1 hc hf1 hw (fun m2 hag2 => ?_)
      have e : m1 40 c = m 10 c := by rw [hag 40 (by decide)]; exact (hnw.1.1 c hc).symm
      rw [e]
      exact k _ _ _ _ _ (IV_mono (IV_ag hI1 (ag_w hag2 (by decide))) (by omega) hi)

set_option maxHeartbeats 4000000 in
set_option maxRecDepth 20000 in
theorem P_borders {i : Nat} {z : am_Z} {m : Nat → Nat → Int32} {n : Nat} {D K : Nat → Nat → Nat} (hI : IV i z m n D K) (hi : i + 5 ≤ 2560)  : AW mX9_borders (PR (i + 5) mX10_borders [.ref 37]) 0 (am_ent (am_l mX9_borders) [.ref 1]) [] (wd z m) n 0 0 := by
  obtain ⟨h9, h10, hnz, hpg, hop, hnw, hct, him⟩ := id hI
  refine c9_borders h9 (fun m1 hag => PR_i (fun Q2 k => ?_))
  have hI1 := IV_ag hI (ag_w hag (by decide))
  by_cases hf : D 7 0 = 0
  · have h0 : D 7 1 = 0 := by have := h9.2.2.2.1; omega
    have e : bd_n (WH D) 16 = 0 := by
      have hw : ∀ c, WH D c = -1 := fun c => by show st_wh (AM D) (D 2) (D 7 1) c = -1; rw [h0]; rfl
      have hp : ∀ c w, bd_p (WH D) c w = false := fun c w => by unfold bd_p; cases sp_to c w with | none => rfl | some t => simp [hw]
      have : ∀ j, bd_n (WH D) j = 0 := fun j => by induction j with | zero => rfl | succ j ih => unfold bd_n; rw [ih, hp]; rfl
      exact this 16
    rw [e] at k
    exact c10_borders_f (by rw [hI1.2.1.2.1, hf]) (k _ _ _ _ _ (IV_mono hI1 (by omega) hi))
  · exact c10_borders_t hI1.2.1 (by omega) (fun m2 hag2 => k _ _ _ _ _ (IV_mono (IV_ag hI1 (ag_w hag2 (by decide))) (by omega) hi))

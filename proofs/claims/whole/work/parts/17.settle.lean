/-! what smells most -/
def SD (z : am_Z) (ns : Nat) (kd pa ce sg : Nat → Nat) : Prop := ∀ s, s < ns → ∃ q, z.2.1 s = some q ∧ 53 < q ∧ z.2.2.1 q = .inr (.inr (kc (kd s), [.int (nI (pa s)), .int (nI (ce s)), .int (nI (sg s))])) ∧ kd s ≤ 4 ∧ pa s < 3 ∧ ce s < 8 ∧ 1 ≤ sg s ∧ sg s ≤ 9
def SB (m : Nat → Nat → Int32) (S ns : Nat) (bn bt : Nat → Nat) : Prop := ∀ s, s < ns → m (S + 1) s = nI (bn s) ∧ bn s ≤ 1 ∧ m (S + 2) s = nI (bt s) ∧ bt s < 2 ^ 30
def so_am (g : Nat → Nat) (bl : Nat → Bool) (fd wi hr fr : Nat) (kd ce sg bn bt : Nat → Nat) (s : Nat) : Nat → Nat := if bn s = 1 ∧ so_at (kd s) hr fr = true then sp_A (sp_E g bl fd (so_ea (kd s)) wi) (ce s) (so_fo (kd s) (sg s) (bt s)) else fun _ => 0
theorem so_am_le {g : Nat → Nat} {bl : Nat → Bool} {fd wi hr fr : Nat} {kd ce sg bn bt : Nat → Nat} {s : Nat} (h : sg s ≤ 9) (j : Nat) : so_am g bl fd wi hr fr kd ce sg bn bt s j ≤ 9 := by
  unfold so_am
  split
  · exact Nat.le_trans (sp_A_le _ _ _ j) (so_fo_le h)
  · exact Nat.zero_le 9
def st_mo (A : Nat → Nat → Nat) : Nat → Nat → Nat
  | 0 => fun _ => 0
  | s + 1 => fun c => if st_mo A s c < A s c then A s c else st_mo A s c
def st_by (A : Nat → Nat → Nat) : Nat → Nat → Int32
  | 0 => fun _ => -1
  | s + 1 => fun c => if st_mo A s c < A s c then nI s else st_by A s c
def st_wh (A : Nat → Nat → Nat) (pa : Nat → Nat) : Nat → Nat → Int32
  | 0 => fun _ => -1
  | s + 1 => fun c => if st_mo A s c < A s c then nI (pa s) else st_wh A pa s c
theorem st_mo_le {A : Nat → Nat → Nat} : ∀ (s : Nat), (∀ s', s' < s → ∀ j, A s' j ≤ 9) → ∀ j, st_mo A s j ≤ 9
  | 0, _, _ => Nat.zero_le 9
  | s + 1, h, j => by
    unfold st_mo
    have h1 := st_mo_le s (fun s' hs => h s' (by omega)) j
    have h2 := h s (by omega) j
    split <;> assumption

set_option maxHeartbeats 4000000 in
set_option maxRecDepth 20000 in
theorem v_X0_settle_89 {Q : am_P} {z : am_Z} {m : Nat → Nat → Int32} {n : Nat} {lv : List (Option Value)} {st : List Value} {q kd pa ce sg : Nat} (hq : 53 < q) (hz : z.2.2.1 q = .inr (.inr (kc kd, [.int (nI pa), .int (nI ce), .int (nI sg)]))) (hkd : kd ≤ 4) (hsg : sg ≤ 9) {bt : Nat} (hbt : bt < 2 ^ 30) (h8 : (st.map fun v => v.category).sum ≤ 8) (k : AW mX0_settle Q 92 lv (.int (nI (so_fo kd sg bt)) :: st) (wd z m) n 0 0) : AW mX0_settle Q 89 lv (.int (nI bt) :: .ref q :: st) (wd z m) n 0 0 := by
  rcases (show kd = 0 ∨ kd = 1 ∨ kd = 2 ∨ kd = 3 ∨ kd = 4 by omega) with rfl | rfl | rfl | rfl | rfl
  · refine q_V 92 0 0 rfl [.int (nI bt)] rfl dX0_settle_89 cl_X0_settle__X4_force (lk_X0_42 rfl) im_X4_force (ci := 4) rfl sl_X4__X4_force (wd_dy hq hz) h8 (fun _ _ => Nat.le_of_ble_eq_true rfl) rfl rfl (Nat.le_of_ble_eq_true rfl) (Nat.le_of_ble_eq_true rfl) ?_
    exact c_force_4 hq hz (k_i k)
  · refine q_U 92 0 0 rfl [.int (nI bt)] rfl dX0_settle_89 cl_X0_settle__X1_force (lk_X0_42 rfl) sm_X4_force im_X4_force cd_X4_force dx_X4_force im_X1_force (ci := 1) rfl sl_X1__X4_force (wd_dy hq hz) h8 (fun _ _ => Nat.le_of_ble_eq_true rfl) rfl rfl (Nat.le_of_ble_eq_true rfl) (Nat.le_of_ble_eq_true rfl) ?_
    exact c_force_1 hq hz hsg hbt (k_i k)
  · refine q_U 92 0 0 rfl [.int (nI bt)] rfl dX0_settle_89 cl_X0_settle__X4_force (lk_X0_42 rfl) sm_X4_force im_X4_force cd_X4_force dx_X4_force im_X4_force (ci := 2) rfl sl_X2__X4_force (wd_dy hq hz) h8 (fun _ _ => Nat.le_of_ble_eq_true rfl) rfl rfl (Nat.le_of_ble_eq_true rfl) (Nat.le_of_ble_eq_true rfl) ?_
    exact c_force_2 hq hz (k_i k)
  · refine q_U 92 0 0 rfl [.int (nI bt)] rfl dX0_settle_89 cl_X0_settle__X4_force (lk_X0_42 rfl) sm_X4_force im_X4_force cd_X4_force dx_X4_force im_X4_force (ci := 6) rfl sl_X6__X4_force (wd_dy hq hz) h8 (fun _ _ => Nat.le_of_ble_eq_true rfl) rfl rfl (Nat.le_of_ble_eq_true rfl) (Nat.le_of_ble_eq_true rfl) ?_
    exact c_force_6 hq hz (k_i k)
  · refine q_U 92 0 0 rfl [.int (nI bt)] rfl dX0_settle_89 cl_X0_settle__X4_force (lk_X0_42 rfl) sm_X4_force im_X4_force cd_X4_force dx_X4_force im_X4_force (ci := 8) rfl sl_X8__X4_force (wd_dy hq hz) h8 (fun _ _ => Nat.le_of_ble_eq_true rfl) rfl rfl (Nat.le_of_ble_eq_true rfl) (Nat.le_of_ble_eq_true rfl) ?_
    exact c_force_8 hq hz (k_i k)

set_option maxHeartbeats 4000000 in
set_option maxRecDepth 20000 in
theorem v_X0_settle_94 {Q : am_P} {z : am_Z} {m : Nat → Nat → Int32} {n : Nat} {lv : List (Option Value)} {st : List Value} {q kd pa ce sg : Nat} (hq : 53 < q) (hz : z.2.2.1 q = .inr (.inr (kc kd, [.int (nI pa), .int (nI ce), .int (nI sg)]))) (hkd : kd ≤ 4) (h8 : (st.map fun v => v.category).sum ≤ 8) (k : AW mX0_settle Q 97 lv (.int (nI (so_ea kd)) :: st) (wd z m) n 0 0) : AW mX0_settle Q 94 lv (.ref q :: st) (wd z m) n 0 0 := by
  rcases (show kd = 0 ∨ kd = 1 ∨ kd = 2 ∨ kd = 3 ∨ kd = 4 by omega) with rfl | rfl | rfl | rfl | rfl
  · refine q_V 97 0 0 rfl [] rfl dX0_settle_94 cl_X0_settle__X4_ease (lk_X0_46 rfl) im_X4_ease (ci := 4) rfl sl_X4__X4_ease (wd_dy hq hz) h8 (fun _ _ => Nat.le_of_ble_eq_true rfl) rfl rfl (Nat.le_of_ble_eq_true rfl) (Nat.le_of_ble_eq_true rfl) ?_
    exact c_X4_ease (k_i k)
  · refine q_U 97 0 0 rfl [] rfl dX0_settle_94 cl_X0_settle__X4_ease (lk_X0_46 rfl) sm_X4_ease im_X4_ease cd_X4_ease dx_X4_ease im_X4_ease (ci := 1) rfl sl_X1__X4_ease (wd_dy hq hz) h8 (fun _ _ => Nat.le_of_ble_eq_true rfl) rfl rfl (Nat.le_of_ble_eq_true rfl) (Nat.le_of_ble_eq_true rfl) ?_
    exact c_X4_ease (k_i k)
  · refine q_U 97 0 0 rfl [] rfl dX0_settle_94 cl_X0_settle__X4_ease (lk_X0_46 rfl) sm_X4_ease im_X4_ease cd_X4_ease dx_X4_ease im_X4_ease (ci := 2) rfl sl_X2__X4_ease (wd_dy hq hz) h8 (fun _ _ => Nat.le_of_ble_eq_true rfl) rfl rfl (Nat.le_of_ble_eq_true rfl) (Nat.le_of_ble_eq_true rfl) ?_
    exact c_X4_ease (k_i k)
  · refine q_U 97 0 0 rfl [] rfl dX0_settle_94 cl_X0_settle__X6_ease (lk_X0_46 rfl) sm_X4_ease im_X4_ease cd_X4_ease dx_X4_ease im_X6_ease (ci := 6) rfl sl_X6__X4_ease (wd_dy hq hz) h8 (fun _ _ => Nat.le_of_ble_eq_true rfl) rfl rfl (Nat.le_of_ble_eq_true rfl) (Nat.le_of_ble_eq_true rfl) ?_
    exact c_X6_ease (k_i k)
  · refine q_U 97 0 0 rfl [] rfl dX0_settle_94 cl_X0_settle__X6_ease (lk_X0_46 rfl) sm_X4_ease im_X4_ease cd_X4_ease dx_X4_ease im_X6_ease (ci := 8) rfl sl_X8__X4_ease (wd_dy hq hz) h8 (fun _ _ => Nat.le_of_ble_eq_true rfl) rfl rfl (Nat.le_of_ble_eq_true rfl) (Nat.le_of_ble_eq_true rfl) ?_
    exact c_X6_ease (k_i k)

set_option maxHeartbeats 4000000 in
set_option maxRecDepth 20000 in
theorem v_gf_X0_34 {M : am_M} (hM : (am_y M).cls = RX0) {Q : am_P} {z : am_Z} {m : Nat → Nat → Int32} {n : Nat} {lv : List (Option Value)} {st : List Value} {pc : Nat} (pc' : Nat) (hp : pc + 3 = pc') (hd : decode (am_c M) pc = .ok (.getfield 34, 3)) {q kd pa ce sg : Nat} (hq : 53 < q) (hz : z.2.2.1 q = .inr (.inr (kc kd, [.int (nI pa), .int (nI ce), .int (nI sg)]))) (hkd : kd ≤ 4) (k : AW M Q pc' lv (.int (nI ce) :: st) (wd z m) n 0 0) : AW M Q pc lv (.ref q :: st) (wd z m) n 0 0 := by
  rcases (show kd = 0 ∨ kd = 1 ∨ kd = 2 ∨ kd = 3 ∨ kd = 4 by omega) with rfl | rfl | rfl | rfl | rfl
  · exact r_getf (v := .int (nI ce)) (k := 1) pc' hp hd (gf_X0_34_4 hM) (wd_dy hq hz) rfl k
  · exact r_getf (v := .int (nI ce)) (k := 1) pc' hp hd (gf_X0_34_1 hM) (wd_dy hq hz) rfl k
  · exact r_getf (v := .int (nI ce)) (k := 1) pc' hp hd (gf_X0_34_2 hM) (wd_dy hq hz) rfl k
  · exact r_getf (v := .int (nI ce)) (k := 1) pc' hp hd (gf_X0_34_6 hM) (wd_dy hq hz) rfl k
  · exact r_getf (v := .int (nI ce)) (k := 1) pc' hp hd (gf_X0_34_8 hM) (wd_dy hq hz) rfl k

set_option maxHeartbeats 4000000 in
set_option maxRecDepth 20000 in
theorem v_gf_X0_59 {M : am_M} (hM : (am_y M).cls = RX0) {Q : am_P} {z : am_Z} {m : Nat → Nat → Int32} {n : Nat} {lv : List (Option Value)} {st : List Value} {pc : Nat} (pc' : Nat) (hp : pc + 3 = pc') (hd : decode (am_c M) pc = .ok (.getfield 59, 3)) {q kd pa ce sg : Nat} (hq : 53 < q) (hz : z.2.2.1 q = .inr (.inr (kc kd, [.int (nI pa), .int (nI ce), .int (nI sg)]))) (hkd : kd ≤ 4) (k : AW M Q pc' lv (.int (nI pa) :: st) (wd z m) n 0 0) : AW M Q pc lv (.ref q :: st) (wd z m) n 0 0 := by
  rcases (show kd = 0 ∨ kd = 1 ∨ kd = 2 ∨ kd = 3 ∨ kd = 4 by omega) with rfl | rfl | rfl | rfl | rfl
  · exact r_getf (v := .int (nI pa)) (k := 0) pc' hp hd (gf_X0_59_4 hM) (wd_dy hq hz) rfl k
  · exact r_getf (v := .int (nI pa)) (k := 0) pc' hp hd (gf_X0_59_1 hM) (wd_dy hq hz) rfl k
  · exact r_getf (v := .int (nI pa)) (k := 0) pc' hp hd (gf_X0_59_2 hM) (wd_dy hq hz) rfl k
  · exact r_getf (v := .int (nI pa)) (k := 0) pc' hp hd (gf_X0_59_6 hM) (wd_dy hq hz) rfl k
  · exact r_getf (v := .int (nI pa)) (k := 0) pc' hp hd (gf_X0_59_8 hM) (wd_dy hq hz) rfl k

set_option maxHeartbeats 4000000 in
set_option maxRecDepth 20000 in
theorem lp_settle_7 {Q : am_P} {z : am_Z} {m : Nat → Nat → Int32} {n : Nat} (g : Nat → Nat) (hg : ∀ j, j < 8 → m 5 j = nI (g j) ∧ g j ≤ 2) {fd : Nat} (hfd : m 4 2 = nI fd) {ns wi hr fr : Nat} {kd pa ce sg bn bt : Nat → Nat} {wl : Int32} (hf1 : 0 < ns → 1 ≤ fd) (hf3 : fd ≤ 3) (hns : m 7 0 = nI ns) (hn6 : ns ≤ 6) (hsd : SD z ns kd pa ce sg) (hsb : SB m 7 ns bn bt) (hwi : m 7 3 = nI wi) (hw4 : wi ≤ 4) (hfr : m 7 4 = nI fr) (hr1 : fr ≤ 1) (hhr : m 7 5 = nI hr) (hh : hr < 2 ^ 30) (k : ∀ m', (∀ j, j < 8 → m' 29 j = nI (st_mo (so_am g (sp_b wl) fd wi hr fr kd ce sg bn bt) ns j)) → (∀ j, j < 8 → m' 30 j = st_by (so_am g (sp_b wl) fd wi hr fr kd ce sg bn bt) ns j) → (∀ j, j < 8 → m' 31 j = st_wh (so_am g (sp_b wl) fd wi hr fr kd ce sg bn bt) pa ns j) → ag [29, 30, 31, 32] m m' → Q none (wd z m') n) : ∀ (d s : Nat), s + d = ns → ∀ m', (∀ j, j < 8 → m' 29 j = nI (st_mo (so_am g (sp_b wl) fd wi hr fr kd ce sg bn bt) s j)) → (∀ j, j < 8 → m' 30 j = st_by (so_am g (sp_b wl) fd wi hr fr kd ce sg bn bt) s j) → (∀ j, j < 8 → m' 31 j = st_wh (so_am g (sp_b wl) fd wi hr fr kd ce sg bn bt) pa s j) → ag [29, 30, 31, 32] m m' → AW mX0_settle Q 43 [some (.ref 28), some (.ref 4), some (.ref 6), some (.ref 7), some (.int wl), some (.int (nI s)), none] [] (wd z m') n 0 0 := by
  have hA9 : ∀ s', s' < ns → ∀ j, (so_am g (sp_b wl) fd wi hr fr kd ce sg bn bt) s' j ≤ 9 := fun s' hs j => by obtain ⟨_, _, _, _, _, _, _, _, h9⟩ := hsd s' hs; exact so_am_le h9 j
  intro d
  induction d with
  | zero =>
    intro s hs m' h29 h30 h31 hag
    have hs : s = ns := by omega
    subst hs
    have hS : m' 7 = m 7 := hag 7 (by decide)
    have hns' : m' 7 0 = nI s := by rw [hS]; exact hns
    refine r_iload 45 rfl dX0_settle_43 rfl ?_
    refine r_aload_n 46 rfl 3 dX0_settle_45 rfl rfl ?_
    refine r_getf (v := .int ((m' 7) 0)) (k := 0) 49 rfl dX0_settle_46 (gf_X0_24_5 rfl) rfl rfl ?_
    rw [show (m' 7) 0 = nI s from hns']
    refine r_icmp_ge 52 127 rfl dX0_settle_49 rfl (fun _ => ?_) (fun q__ => absurd ((nI_leI (a := s) (b := s) (by omega) (by omega)).mpr (by omega)) q__)
    refine r_return rfl dX0_settle_127 (Nat.le_of_ble_eq_true rfl) (Nat.le_of_ble_eq_true rfl) ?_
    exact k m' h29 h30 h31 hag
  | succ d ih =>
    intro s hs m' h29 h30 h31 hag
    have hS : m' 7 = m 7 := hag 7 (by decide)
    have hS1 : m' 8 = m 8 := hag 8 (by decide)
    have hS2 : m' 9 = m 9 := hag 9 (by decide)
    have hns' : m' 7 0 = nI ns := by rw [hS]; exact hns
    have hwi' : m' 7 3 = nI wi := by rw [hS]; exact hwi
    have hfr' : m' 7 4 = nI fr := by rw [hS]; exact hfr
    have hhr' : m' 7 5 = nI hr := by rw [hS]; exact hhr
    have hg' : ∀ j, j < 8 → m' 5 j = nI (g j) ∧ g j ≤ 2 := fun j hj => by rw [hag 5 (by decide)]; exact hg j hj
    have hfd' : m' 4 2 = nI fd := by rw [hag 4 (by decide)]; exact hfd
    have hf1' := hf1 (by omega)
    obtain ⟨q, hq0, hq, hz, hkd, hpa, hce, hsg1, hsg⟩ := hsd s (by omega)
    obtain ⟨hbn0, hbn1, hbt0, hbt1⟩ := hsb s (by omega)
    have hbn : m' 8 s = nI (bn s) := by rw [hS1]; exact hbn0
    have hbt : m' 9 s = nI (bt s) := by rw [hS2]; exact hbt0
    have hmo9 := st_mo_le (A := (so_am g (sp_b wl) fd wi hr fr kd ce sg bn bt)) s (fun s' h' => hA9 s' (by omega))
    have hfo := so_fo_le (kd := kd s) (bt := bt s) hsg
    have hea := so_ea_le (kd s)
    refine r_iload 45 rfl dX0_settle_43 rfl ?_
    refine r_aload_n 46 rfl 3 dX0_settle_45 rfl rfl ?_
    refine r_getf (v := .int ((m' 7) 0)) (k := 0) 49 rfl dX0_settle_46 (gf_X0_24_5 rfl) rfl rfl ?_
    rw [show (m' 7) 0 = nI ns from hns']
    refine r_icmp_ge 52 127 rfl dX0_settle_49 rfl (fun q__ => absurd q__ (fun q__ => absurd ((nI_leI (a := ns) (b := s) (by omega) (by omega)).mp q__) (by omega))) (fun _ => ?_)
    refine r_aload_n 53 rfl 2 dX0_settle_52 rfl rfl ?_
    refine r_iload 55 rfl dX0_settle_53 rfl ?_
    refine r_aald 56 rfl s (.ref q) dX0_settle_55 rfl rfl (by omega) (by decide) (by rw [hq0]; rfl) ?_
    refine r_astore 58 rfl [some (.ref 28), some (.ref 4), some (.ref 6), some (.ref 7), some (.int wl), some (.int (nI s)), some (.ref q)] dX0_settle_56 (by decide) rfl ?_
    refine r_aload 60 rfl dX0_settle_58 rfl ?_
    refine r_ifnull 63 rfl dX0_settle_60 ?_
    refine r_aload_n 64 rfl 3 dX0_settle_63 rfl rfl ?_
    refine r_aload 66 rfl dX0_settle_64 rfl ?_
    refine r_iload 68 rfl dX0_settle_66 rfl ?_
    refine q_V 71 0 0 rfl [.ref q, .int (nI s)] rfl dX0_settle_68 cl_X0_settle__X5_smells (lk_X0_30 rfl) im_X5_smells (ci := 5) rfl sl_X5__X5_smells rfl (Nat.le_of_ble_eq_true rfl) (fun _ _ => Nat.le_of_ble_eq_true rfl) rfl rfl (Nat.le_of_ble_eq_true rfl) (Nat.le_of_ble_eq_true rfl) ?_
    refine c_smells_7 hq hz hkd (by omega) hbn hbn1 hhr' (by omega) hfr' hr1 (fun hsm => (k_i ?_)) (fun hsm => (k_i ?_))
    · refine r_if_eq 74 121 rfl dX0_settle_71 rfl (fun q__ => absurd q__ (by decide)) (fun _ => ?_)
      refine r_aload_n 75 rfl 1 dX0_settle_74 rfl rfl ?_
      refine r_aload 77 rfl dX0_settle_75 rfl ?_
      refine v_gf_X0_34 rfl 80 rfl dX0_settle_77 hq hz hkd ?_
      refine r_aload 82 rfl dX0_settle_80 rfl ?_
      refine r_aload_n 83 rfl 3 dX0_settle_82 rfl rfl ?_
      refine r_getf (v := .ref 9) (k := 2) 86 rfl dX0_settle_83 (gf_X0_39_5 rfl) rfl rfl ?_
      refine r_iload 88 rfl dX0_settle_86 rfl ?_
      refine r_iald (f := m' 9) 89 rfl s dX0_settle_88 rfl rfl (by omega) (by decide) ?_
      rw [show (m' 9) s = nI (bt s) from hbt]
      refine v_X0_settle_89 hq hz hkd hsg hbt1 (Nat.le_of_ble_eq_true rfl) ?_
      refine r_aload 94 rfl dX0_settle_92 rfl ?_
      refine v_X0_settle_94 hq hz hkd (Nat.le_of_ble_eq_true rfl) ?_
      refine r_aload_n 98 rfl 3 dX0_settle_97 rfl rfl ?_
      refine r_getf (v := .int ((m' 7) 3)) (k := 3) 101 rfl dX0_settle_98 (gf_X0_50_5 rfl) rfl rfl ?_
      rw [show (m' 7) 3 = nI wi from hwi']
      refine r_iload 103 rfl dX0_settle_101 rfl ?_
      refine r_aload_n 104 rfl 0 dX0_settle_103 rfl rfl ?_
      refine r_getf (v := .ref 32) (k := 3) 107 rfl dX0_settle_104 (gf_X0_21_0 rfl) rfl rfl ?_
      refine q_V 110 0 0 rfl [.int (nI (ce s)), .int (nI (so_fo (kd s) (sg s) (bt s))), .int (nI (so_ea (kd s))), .int (nI wi), .int wl, .ref 32] rfl dX0_settle_107 cl_X0_settle__X7_spread (lk_X0_53 rfl) im_X7_spread (ci := 7) rfl sl_X7__X7_spread rfl (Nat.le_of_ble_eq_true rfl) (fun _ _ => Nat.le_of_ble_eq_true rfl) rfl rfl (Nat.le_of_ble_eq_true rfl) (Nat.le_of_ble_eq_true rfl) ?_
      refine c_spread_32 g hg' hfd' hf1' hf3 hce hfo hea hw4 (fun m2 hm2 hag2 => (k_v ?_))
      have hag3 : ag [29, 30, 31, 32] m m2 := ag_t hag hag2 (by decide)
      have h29' : ∀ j, j < 8 → m2 29 j = nI (st_mo (so_am g (sp_b wl) fd wi hr fr kd ce sg bn bt) s j) := fun j hj => by rw [hag2 29 (by decide)]; exact h29 j hj
      have h30' : ∀ j, j < 8 → m2 30 j = st_by (so_am g (sp_b wl) fd wi hr fr kd ce sg bn bt) s j := fun j hj => by rw [hag2 30 (by decide)]; exact h30 j hj
      have h31' : ∀ j, j < 8 → m2 31 j = st_wh (so_am g (sp_b wl) fd wi hr fr kd ce sg bn bt) pa s j := fun j hj => by rw [hag2 31 (by decide)]; exact h31 j hj
      refine r_aload_n 111 rfl 0 dX0_settle_110 rfl rfl ?_
      refine r_aload 113 rfl dX0_settle_111 rfl ?_
      refine v_gf_X0_59 rfl 116 rfl dX0_settle_113 hq hz hkd ?_
      refine r_iload 118 rfl dX0_settle_116 rfl ?_
      refine q_V 121 0 0 rfl [.int (nI (pa s)), .int (nI s)] rfl dX0_settle_118 cl_X0_settle__X0_mingle (lk_X0_62 rfl) im_X0_mingle (ci := 0) rfl sl_X0__X0_mingle rfl (Nat.le_of_ble_eq_true rfl) (fun _ _ => Nat.le_of_ble_eq_true rfl) rfl rfl (Nat.le_of_ble_eq_true rfl) (Nat.le_of_ble_eq_true rfl) ?_
      refine c_mingle (a := (sp_A (sp_E g (sp_b wl) fd (so_ea (kd s)) wi) (ce s) (so_fo (kd s) (sg s) (bt s)))) (mo := st_mo (so_am g (sp_b wl) fd wi hr fr kd ce sg bn bt) s) (fun j hj => ⟨hm2 j hj, Nat.le_trans (sp_A_le _ _ _ j) hfo⟩) (fun j hj => ⟨h29' j hj, hmo9 j⟩) (fun m3 b29 b30 b31 hag4 => (k_v ?_))
      refine r_iinc 124 rfl (nI (s + 1)) [some (.ref 28), some (.ref 4), some (.ref 6), some (.ref 7), some (.int wl), some (.int (nI (s + 1))), some (.ref q)] dX0_settle_121 rfl (nI_1 _) (by decide) rfl ?_
      refine r_goto 43 dX0_settle_124 rfl ?_
      refine AW.drop 6 [some (.ref 28), some (.ref 4), some (.ref 6), some (.ref 7), some (.int wl), some (.int (nI (s + 1))), none] rfl ?_
      have hA1 : (so_am g (sp_b wl) fd wi hr fr kd ce sg bn bt) s = (sp_A (sp_E g (sp_b wl) fd (so_ea (kd s)) wi) (ce s) (so_fo (kd s) (sg s) (bt s))) := by unfold so_am; rw [if_pos hsm]
      refine ih (s + 1) (by omega) m3 (fun j hj => ?_) (fun j hj => ?_) (fun j hj => ?_) (ag_t hag3 hag4 (by decide))
      · rw [b29 j hj, ← hA1]; rfl
      · rw [b30 j hj, ← hA1, h30' j hj]; rfl
      · rw [b31 j hj, ← hA1, h31' j hj]; rfl
    · refine r_if_eq 74 121 rfl dX0_settle_71 rfl (fun _ => ?_) (fun q__ => absurd (by decide) q__)
      refine r_iinc 124 rfl (nI (s + 1)) [some (.ref 28), some (.ref 4), some (.ref 6), some (.ref 7), some (.int wl), some (.int (nI (s + 1))), some (.ref q)] dX0_settle_121 rfl (nI_1 _) (by decide) rfl ?_
      refine r_goto 43 dX0_settle_124 rfl ?_
      refine AW.drop 6 [some (.ref 28), some (.ref 4), some (.ref 6), some (.ref 7), some (.int wl), some (.int (nI (s + 1))), none] rfl ?_
      have hA0 : (so_am g (sp_b wl) fd wi hr fr kd ce sg bn bt) s = fun _ => 0 := by unfold so_am; rw [if_neg hsm]
      refine ih (s + 1) (by omega) m' (fun j hj => ?_) (fun j hj => ?_) (fun j hj => ?_) hag
      · rw [h29 j hj]; show _ = nI (if st_mo _ s j < (so_am g (sp_b wl) fd wi hr fr kd ce sg bn bt) s j then _ else _); rw [if_neg (by rw [hA0]; exact Nat.not_lt_zero _)]
      · rw [h30 j hj]; show _ = (if st_mo _ s j < (so_am g (sp_b wl) fd wi hr fr kd ce sg bn bt) s j then _ else _); rw [if_neg (by rw [hA0]; exact Nat.not_lt_zero _)]
      · rw [h31 j hj]; show _ = (if st_mo _ s j < (so_am g (sp_b wl) fd wi hr fr kd ce sg bn bt) s j then _ else _); rw [if_neg (by rw [hA0]; exact Nat.not_lt_zero _)]
set_option maxHeartbeats 4000000 in
set_option maxRecDepth 20000 in
theorem lp_settle0_7 {Q : am_P} {z : am_Z} {m : Nat → Nat → Int32} {n : Nat} {wl : Int32} (kx : ∀ m', (∀ j, j < 8 → m' 29 j = 0) → (∀ j, j < 8 → m' 30 j = -1) → (∀ j, j < 8 → m' 31 j = -1) → ag [29, 30, 31, 32] m m' → AW mX0_settle Q 40 [some (.ref 28), some (.ref 4), some (.ref 6), some (.ref 7), some (.int wl), none, none] [] (wd z m') n 0 0) : ∀ (d c : Nat), c + d = 8 → ∀ m', (∀ j, j < c → m' 29 j = 0) → (∀ j, j < c → m' 30 j = -1) → (∀ j, j < c → m' 31 j = -1) → ag [29, 30, 31, 32] m m' → AW mX0_settle Q 3 [some (.ref 28), some (.ref 4), some (.ref 6), some (.ref 7), some (.int wl), some (.int (nI c)), none] [] (wd z m') n 0 0 := by
  intro d
  induction d with
  | zero =>
    intro c hc m' h29 h30 h31 hag
    have hc : c = 8 := by omega
    subst hc
    refine r_iload 5 rfl dX0_settle_3 rfl ?_
    refine r_bipush 7 rfl 8 dX0_settle_5 (by decide) ?_
    refine r_icmp_ge 10 40 rfl dX0_settle_7 rfl (fun _ => ?_) (fun q__ => absurd ((nI_leI (a := 8) (b := 8) (by omega) (by omega)).mpr (by omega)) q__)
    refine AW.drop 5 [some (.ref 28), some (.ref 4), some (.ref 6), some (.ref 7), some (.int wl), none, none] rfl ?_
    exact kx m' h29 h30 h31 hag
  | succ d ih =>
    intro c hc m' h29 h30 h31 hag
    refine r_iload 5 rfl dX0_settle_3 rfl ?_
    refine r_bipush 7 rfl 8 dX0_settle_5 (by decide) ?_
    refine r_icmp_ge 10 40 rfl dX0_settle_7 rfl (fun q__ => absurd q__ (fun q__ => absurd ((nI_leI (a := 8) (b := c) (by omega) (by omega)).mp q__) (by omega))) (fun _ => ?_)
    refine r_aload_n 11 rfl 0 dX0_settle_10 rfl rfl ?_
    refine r_getf (v := .ref 29) (k := 0) 14 rfl dX0_settle_11 (gf_X0_9_0 rfl) rfl rfl ?_
    refine r_iload 16 rfl dX0_settle_14 rfl ?_
    refine r_iconst 17 rfl 0 dX0_settle_16 rfl ?_
    refine w_iast 18 rfl c (va_up m' 29 (upd (m' 29) c 0)) dX0_settle_17 (by decide) (by decide) (fun _ => rfl) rfl (by omega) (by decide) rfl ?_
    refine r_aload_n 19 rfl 0 dX0_settle_18 rfl rfl ?_
    refine r_getf (v := .ref 30) (k := 1) 22 rfl dX0_settle_19 (gf_X0_15_0 rfl) rfl rfl ?_
    refine r_iload 24 rfl dX0_settle_22 rfl ?_
    refine r_iconst 25 rfl (-1) dX0_settle_24 rfl ?_
    refine w_iast 26 rfl c (va_up (va_up m' 29 (upd (m' 29) c 0)) 30 (upd (m' 30) c (-1))) dX0_settle_25 (by decide) (by decide) (fun _ => rfl) rfl (by omega) (by decide) rfl ?_
    refine r_aload_n 27 rfl 0 dX0_settle_26 rfl rfl ?_
    refine r_getf (v := .ref 31) (k := 2) 30 rfl dX0_settle_27 (gf_X0_18_0 rfl) rfl rfl ?_
    refine r_iload 32 rfl dX0_settle_30 rfl ?_
    refine r_iconst 33 rfl (-1) dX0_settle_32 rfl ?_
    refine w_iast 34 rfl c (va_up (va_up (va_up m' 29 (upd (m' 29) c 0)) 30 (upd (m' 30) c (-1))) 31 (upd (m' 31) c (-1))) dX0_settle_33 (by decide) (by decide) (fun _ => rfl) rfl (by omega) (by decide) rfl ?_
    refine r_iinc 37 rfl (nI (c + 1)) [some (.ref 28), some (.ref 4), some (.ref 6), some (.ref 7), some (.int wl), some (.int (nI (c + 1))), none] dX0_settle_34 rfl (nI_1 _) (by decide) rfl ?_
    refine r_goto 3 dX0_settle_37 rfl ?_
    refine ih (c + 1) (by omega) _ (fun j hj => ?_) (fun j hj => ?_) (fun j hj => ?_) (ag_up (ag_up (ag_up hag (by decide)) (by decide)) (by decide))
    · show upd (m' 29) c 0 j = _
      unfold upd
      by_cases hjc : j = c
      · rw [if_pos hjc]
      · rw [if_neg hjc]; exact h29 j (by omega)
    · show upd (m' 30) c (-1) j = _
      unfold upd
      by_cases hjc : j = c
      · rw [if_pos hjc]
      · rw [if_neg hjc]; exact h30 j (by omega)
    · show upd (m' 31) c (-1) j = _
      unfold upd
      by_cases hjc : j = c
      · rw [if_pos hjc]
      · rw [if_neg hjc]; exact h31 j (by omega)
set_option maxHeartbeats 4000000 in
set_option maxRecDepth 20000 in
theorem c_settle_7 {Q : am_P} {z : am_Z} {m : Nat → Nat → Int32} {n : Nat} (g : Nat → Nat) (hg : ∀ j, j < 8 → m 5 j = nI (g j) ∧ g j ≤ 2) {fd : Nat} (hfd : m 4 2 = nI fd) {ns wi hr fr : Nat} {kd pa ce sg bn bt : Nat → Nat} {wl : Int32} (hf1 : 0 < ns → 1 ≤ fd) (hf3 : fd ≤ 3) (hns : m 7 0 = nI ns) (hn6 : ns ≤ 6) (hsd : SD z ns kd pa ce sg) (hsb : SB m 7 ns bn bt) (hwi : m 7 3 = nI wi) (hw4 : wi ≤ 4) (hfr : m 7 4 = nI fr) (hr1 : fr ≤ 1) (hhr : m 7 5 = nI hr) (hh : hr < 2 ^ 30) (k : ∀ m', (∀ j, j < 8 → m' 29 j = nI (st_mo (so_am g (sp_b wl) fd wi hr fr kd ce sg bn bt) ns j)) → (∀ j, j < 8 → m' 30 j = st_by (so_am g (sp_b wl) fd wi hr fr kd ce sg bn bt) ns j) → (∀ j, j < 8 → m' 31 j = st_wh (so_am g (sp_b wl) fd wi hr fr kd ce sg bn bt) pa ns j) → ag [29, 30, 31, 32] m m' → Q none (wd z m') n) : AW mX0_settle Q 0 (am_ent (am_l mX0_settle) [.ref 28, .ref 4, .ref 6, .ref 7, .int wl]) [] (wd z m) n 0 0 := by
  show AW _ _ 0 [some (.ref 28), some (.ref 4), some (.ref 6), some (.ref 7), some (.int wl), none, none] [] _ _ 0 0
  refine r_iconst 1 rfl 0 dX0_settle_0 rfl ?_
  refine r_istore 3 rfl [some (.ref 28), some (.ref 4), some (.ref 6), some (.ref 7), some (.int wl), some (.int 0), none] dX0_settle_1 (by decide) rfl ?_
  refine lp_settle0_7 (fun m1 h29 h30 h31 hag1 => ?_) 8 0 rfl m (fun j hj => absurd hj (Nat.not_lt_zero j)) (fun j hj => absurd hj (Nat.not_lt_zero j)) (fun j hj => absurd hj (Nat.not_lt_zero j)) (ag_r _ _)
  refine r_iconst 41 rfl 0 dX0_settle_40 rfl ?_
  refine r_istore 43 rfl [some (.ref 28), some (.ref 4), some (.ref 6), some (.ref 7), some (.int wl), some (.int 0), none] dX0_settle_41 (by decide) rfl ?_
  exact lp_settle_7 g hg hfd hf1 hf3 hns hn6 hsd hsb hwi hw4 hfr hr1 hhr hh k ns 0 (by omega) m1 h29 h30 h31 hag1

set_option maxHeartbeats 4000000 in
set_option maxRecDepth 20000 in
theorem lp_settle_21 {Q : am_P} {z : am_Z} {m : Nat → Nat → Int32} {n : Nat} (g : Nat → Nat) (hg : ∀ j, j < 8 → m 5 j = nI (g j) ∧ g j ≤ 2) {fd : Nat} (hfd : m 4 2 = nI fd) {ns wi hr fr : Nat} {kd pa ce sg bn bt : Nat → Nat} {wl : Int32} (hf1 : 0 < ns → 1 ≤ fd) (hf3 : fd ≤ 3) (hns : m 21 0 = nI ns) (hn6 : ns ≤ 6) (hsd : SD z ns kd pa ce sg) (hsb : SB m 21 ns bn bt) (hwi : m 21 3 = nI wi) (hw4 : wi ≤ 4) (hfr : m 21 4 = nI fr) (hr1 : fr ≤ 1) (hhr : m 21 5 = nI hr) (hh : hr < 2 ^ 30) (k : ∀ m', (∀ j, j < 8 → m' 29 j = nI (st_mo (so_am g (sp_b wl) fd wi hr fr kd ce sg bn bt) ns j)) → (∀ j, j < 8 → m' 30 j = st_by (so_am g (sp_b wl) fd wi hr fr kd ce sg bn bt) ns j) → (∀ j, j < 8 → m' 31 j = st_wh (so_am g (sp_b wl) fd wi hr fr kd ce sg bn bt) pa ns j) → ag [29, 30, 31, 32] m m' → Q none (wd z m') n) : ∀ (d s : Nat), s + d = ns → ∀ m', (∀ j, j < 8 → m' 29 j = nI (st_mo (so_am g (sp_b wl) fd wi hr fr kd ce sg bn bt) s j)) → (∀ j, j < 8 → m' 30 j = st_by (so_am g (sp_b wl) fd wi hr fr kd ce sg bn bt) s j) → (∀ j, j < 8 → m' 31 j = st_wh (so_am g (sp_b wl) fd wi hr fr kd ce sg bn bt) pa s j) → ag [29, 30, 31, 32] m m' → AW mX0_settle Q 43 [some (.ref 28), some (.ref 4), some (.ref 6), some (.ref 21), some (.int wl), some (.int (nI s)), none] [] (wd z m') n 0 0 := by
  have hA9 : ∀ s', s' < ns → ∀ j, (so_am g (sp_b wl) fd wi hr fr kd ce sg bn bt) s' j ≤ 9 := fun s' hs j => by obtain ⟨_, _, _, _, _, _, _, _, h9⟩ := hsd s' hs; exact so_am_le h9 j
  intro d
  induction d with
  | zero =>
    intro s hs m' h29 h30 h31 hag
    have hs : s = ns := by omega
    subst hs
    have hS : m' 21 = m 21 := hag 21 (by decide)
    have hns' : m' 21 0 = nI s := by rw [hS]; exact hns
    refine r_iload 45 rfl dX0_settle_43 rfl ?_
    refine r_aload_n 46 rfl 3 dX0_settle_45 rfl rfl ?_
    refine r_getf (v := .int ((m' 21) 0)) (k := 0) 49 rfl dX0_settle_46 (gf_X0_24_5 rfl) rfl rfl ?_
    rw [show (m' 21) 0 = nI s from hns']
    refine r_icmp_ge 52 127 rfl dX0_settle_49 rfl (fun _ => ?_) (fun q__ => absurd ((nI_leI (a := s) (b := s) (by omega) (by omega)).mpr (by omega)) q__)
    refine r_return rfl dX0_settle_127 (Nat.le_of_ble_eq_true rfl) (Nat.le_of_ble_eq_true rfl) ?_
    exact k m' h29 h30 h31 hag
  | succ d ih =>
    intro s hs m' h29 h30 h31 hag
    have hS : m' 21 = m 21 := hag 21 (by decide)
    have hS1 : m' 22 = m 22 := hag 22 (by decide)
    have hS2 : m' 23 = m 23 := hag 23 (by decide)
    have hns' : m' 21 0 = nI ns := by rw [hS]; exact hns
    have hwi' : m' 21 3 = nI wi := by rw [hS]; exact hwi
    have hfr' : m' 21 4 = nI fr := by rw [hS]; exact hfr
    have hhr' : m' 21 5 = nI hr := by rw [hS]; exact hhr
    have hg' : ∀ j, j < 8 → m' 5 j = nI (g j) ∧ g j ≤ 2 := fun j hj => by rw [hag 5 (by decide)]; exact hg j hj
    have hfd' : m' 4 2 = nI fd := by rw [hag 4 (by decide)]; exact hfd
    have hf1' := hf1 (by omega)
    obtain ⟨q, hq0, hq, hz, hkd, hpa, hce, hsg1, hsg⟩ := hsd s (by omega)
    obtain ⟨hbn0, hbn1, hbt0, hbt1⟩ := hsb s (by omega)
    have hbn : m' 22 s = nI (bn s) := by rw [hS1]; exact hbn0
    have hbt : m' 23 s = nI (bt s) := by rw [hS2]; exact hbt0
    have hmo9 := st_mo_le (A := (so_am g (sp_b wl) fd wi hr fr kd ce sg bn bt)) s (fun s' h' => hA9 s' (by omega))
    have hfo := so_fo_le (kd := kd s) (bt := bt s) hsg
    have hea := so_ea_le (kd s)
    refine r_iload 45 rfl dX0_settle_43 rfl ?_
    refine r_aload_n 46 rfl 3 dX0_settle_45 rfl rfl ?_
    refine r_getf (v := .int ((m' 21) 0)) (k := 0) 49 rfl dX0_settle_46 (gf_X0_24_5 rfl) rfl rfl ?_
    rw [show (m' 21) 0 = nI ns from hns']
    refine r_icmp_ge 52 127 rfl dX0_settle_49 rfl (fun q__ => absurd q__ (fun q__ => absurd ((nI_leI (a := ns) (b := s) (by omega) (by omega)).mp q__) (by omega))) (fun _ => ?_)
    refine r_aload_n 53 rfl 2 dX0_settle_52 rfl rfl ?_
    refine r_iload 55 rfl dX0_settle_53 rfl ?_
    refine r_aald 56 rfl s (.ref q) dX0_settle_55 rfl rfl (by omega) (by decide) (by rw [hq0]; rfl) ?_
    refine r_astore 58 rfl [some (.ref 28), some (.ref 4), some (.ref 6), some (.ref 21), some (.int wl), some (.int (nI s)), some (.ref q)] dX0_settle_56 (by decide) rfl ?_
    refine r_aload 60 rfl dX0_settle_58 rfl ?_
    refine r_ifnull 63 rfl dX0_settle_60 ?_
    refine r_aload_n 64 rfl 3 dX0_settle_63 rfl rfl ?_
    refine r_aload 66 rfl dX0_settle_64 rfl ?_
    refine r_iload 68 rfl dX0_settle_66 rfl ?_
    refine q_V 71 0 0 rfl [.ref q, .int (nI s)] rfl dX0_settle_68 cl_X0_settle__X5_smells (lk_X0_30 rfl) im_X5_smells (ci := 5) rfl sl_X5__X5_smells rfl (Nat.le_of_ble_eq_true rfl) (fun _ _ => Nat.le_of_ble_eq_true rfl) rfl rfl (Nat.le_of_ble_eq_true rfl) (Nat.le_of_ble_eq_true rfl) ?_
    refine c_smells_21 hq hz hkd (by omega) hbn hbn1 hhr' (by omega) hfr' hr1 (fun hsm => (k_i ?_)) (fun hsm => (k_i ?_))
    · refine r_if_eq 74 121 rfl dX0_settle_71 rfl (fun q__ => absurd q__ (by decide)) (fun _ => ?_)
      refine r_aload_n 75 rfl 1 dX0_settle_74 rfl rfl ?_
      refine r_aload 77 rfl dX0_settle_75 rfl ?_
      refine v_gf_X0_34 rfl 80 rfl dX0_settle_77 hq hz hkd ?_
      refine r_aload 82 rfl dX0_settle_80 rfl ?_
      refine r_aload_n 83 rfl 3 dX0_settle_82 rfl rfl ?_
      refine r_getf (v := .ref 23) (k := 2) 86 rfl dX0_settle_83 (gf_X0_39_5 rfl) rfl rfl ?_
      refine r_iload 88 rfl dX0_settle_86 rfl ?_
      refine r_iald (f := m' 23) 89 rfl s dX0_settle_88 rfl rfl (by omega) (by decide) ?_
      rw [show (m' 23) s = nI (bt s) from hbt]
      refine v_X0_settle_89 hq hz hkd hsg hbt1 (Nat.le_of_ble_eq_true rfl) ?_
      refine r_aload 94 rfl dX0_settle_92 rfl ?_
      refine v_X0_settle_94 hq hz hkd (Nat.le_of_ble_eq_true rfl) ?_
      refine r_aload_n 98 rfl 3 dX0_settle_97 rfl rfl ?_
      refine r_getf (v := .int ((m' 21) 3)) (k := 3) 101 rfl dX0_settle_98 (gf_X0_50_5 rfl) rfl rfl ?_
      rw [show (m' 21) 3 = nI wi from hwi']
      refine r_iload 103 rfl dX0_settle_101 rfl ?_
      refine r_aload_n 104 rfl 0 dX0_settle_103 rfl rfl ?_
      refine r_getf (v := .ref 32) (k := 3) 107 rfl dX0_settle_104 (gf_X0_21_0 rfl) rfl rfl ?_
      refine q_V 110 0 0 rfl [.int (nI (ce s)), .int (nI (so_fo (kd s) (sg s) (bt s))), .int (nI (so_ea (kd s))), .int (nI wi), .int wl, .ref 32] rfl dX0_settle_107 cl_X0_settle__X7_spread (lk_X0_53 rfl) im_X7_spread (ci := 7) rfl sl_X7__X7_spread rfl (Nat.le_of_ble_eq_true rfl) (fun _ _ => Nat.le_of_ble_eq_true rfl) rfl rfl (Nat.le_of_ble_eq_true rfl) (Nat.le_of_ble_eq_true rfl) ?_
      refine c_spread_32 g hg' hfd' hf1' hf3 hce hfo hea hw4 (fun m2 hm2 hag2 => (k_v ?_))
      have hag3 : ag [29, 30, 31, 32] m m2 := ag_t hag hag2 (by decide)
      have h29' : ∀ j, j < 8 → m2 29 j = nI (st_mo (so_am g (sp_b wl) fd wi hr fr kd ce sg bn bt) s j) := fun j hj => by rw [hag2 29 (by decide)]; exact h29 j hj
      have h30' : ∀ j, j < 8 → m2 30 j = st_by (so_am g (sp_b wl) fd wi hr fr kd ce sg bn bt) s j := fun j hj => by rw [hag2 30 (by decide)]; exact h30 j hj
      have h31' : ∀ j, j < 8 → m2 31 j = st_wh (so_am g (sp_b wl) fd wi hr fr kd ce sg bn bt) pa s j := fun j hj => by rw [hag2 31 (by decide)]; exact h31 j hj
      refine r_aload_n 111 rfl 0 dX0_settle_110 rfl rfl ?_
      refine r_aload 113 rfl dX0_settle_111 rfl ?_
      refine v_gf_X0_59 rfl 116 rfl dX0_settle_113 hq hz hkd ?_
      refine r_iload 118 rfl dX0_settle_116 rfl ?_
      refine q_V 121 0 0 rfl [.int (nI (pa s)), .int (nI s)] rfl dX0_settle_118 cl_X0_settle__X0_mingle (lk_X0_62 rfl) im_X0_mingle (ci := 0) rfl sl_X0__X0_mingle rfl (Nat.le_of_ble_eq_true rfl) (fun _ _ => Nat.le_of_ble_eq_true rfl) rfl rfl (Nat.le_of_ble_eq_true rfl) (Nat.le_of_ble_eq_true rfl) ?_
      refine c_mingle (a := (sp_A (sp_E g (sp_b wl) fd (so_ea (kd s)) wi) (ce s) (so_fo (kd s) (sg s) (bt s)))) (mo := st_mo (so_am g (sp_b wl) fd wi hr fr kd ce sg bn bt) s) (fun j hj => ⟨hm2 j hj, Nat.le_trans (sp_A_le _ _ _ j) hfo⟩) (fun j hj => ⟨h29' j hj, hmo9 j⟩) (fun m3 b29 b30 b31 hag4 => (k_v ?_))
      refine r_iinc 124 rfl (nI (s + 1)) [some (.ref 28), some (.ref 4), some (.ref 6), some (.ref 21), some (.int wl), some (.int (nI (s + 1))), some (.ref q)] dX0_settle_121 rfl (nI_1 _) (by decide) rfl ?_
      refine r_goto 43 dX0_settle_124 rfl ?_
      refine AW.drop 6 [some (.ref 28), some (.ref 4), some (.ref 6), some (.ref 21), some (.int wl), some (.int (nI (s + 1))), none] rfl ?_
      have hA1 : (so_am g (sp_b wl) fd wi hr fr kd ce sg bn bt) s = (sp_A (sp_E g (sp_b wl) fd (so_ea (kd s)) wi) (ce s) (so_fo (kd s) (sg s) (bt s))) := by unfold so_am; rw [if_pos hsm]
      refine ih (s + 1) (by omega) m3 (fun j hj => ?_) (fun j hj => ?_) (fun j hj => ?_) (ag_t hag3 hag4 (by decide))
      · rw [b29 j hj, ← hA1]; rfl
      · rw [b30 j hj, ← hA1, h30' j hj]; rfl
      · rw [b31 j hj, ← hA1, h31' j hj]; rfl
    · refine r_if_eq 74 121 rfl dX0_settle_71 rfl (fun _ => ?_) (fun q__ => absurd (by decide) q__)
      refine r_iinc 124 rfl (nI (s + 1)) [some (.ref 28), some (.ref 4), some (.ref 6), some (.ref 21), some (.int wl), some (.int (nI (s + 1))), some (.ref q)] dX0_settle_121 rfl (nI_1 _) (by decide) rfl ?_
      refine r_goto 43 dX0_settle_124 rfl ?_
      refine AW.drop 6 [some (.ref 28), some (.ref 4), some (.ref 6), some (.ref 21), some (.int wl), some (.int (nI (s + 1))), none] rfl ?_
      have hA0 : (so_am g (sp_b wl) fd wi hr fr kd ce sg bn bt) s = fun _ => 0 := by unfold so_am; rw [if_neg hsm]
      refine ih (s + 1) (by omega) m' (fun j hj => ?_) (fun j hj => ?_) (fun j hj => ?_) hag
      · rw [h29 j hj]; show _ = nI (if st_mo _ s j < (so_am g (sp_b wl) fd wi hr fr kd ce sg bn bt) s j then _ else _); rw [if_neg (by rw [hA0]; exact Nat.not_lt_zero _)]
      · rw [h30 j hj]; show _ = (if st_mo _ s j < (so_am g (sp_b wl) fd wi hr fr kd ce sg bn bt) s j then _ else _); rw [if_neg (by rw [hA0]; exact Nat.not_lt_zero _)]
      · rw [h31 j hj]; show _ = (if st_mo _ s j < (so_am g (sp_b wl) fd wi hr fr kd ce sg bn bt) s j then _ else _); rw [if_neg (by rw [hA0]; exact Nat.not_lt_zero _)]
set_option maxHeartbeats 4000000 in
set_option maxRecDepth 20000 in
theorem lp_settle0_21 {Q : am_P} {z : am_Z} {m : Nat → Nat → Int32} {n : Nat} {wl : Int32} (kx : ∀ m', (∀ j, j < 8 → m' 29 j = 0) → (∀ j, j < 8 → m' 30 j = -1) → (∀ j, j < 8 → m' 31 j = -1) → ag [29, 30, 31, 32] m m' → AW mX0_settle Q 40 [some (.ref 28), some (.ref 4), some (.ref 6), some (.ref 21), some (.int wl), none, none] [] (wd z m') n 0 0) : ∀ (d c : Nat), c + d = 8 → ∀ m', (∀ j, j < c → m' 29 j = 0) → (∀ j, j < c → m' 30 j = -1) → (∀ j, j < c → m' 31 j = -1) → ag [29, 30, 31, 32] m m' → AW mX0_settle Q 3 [some (.ref 28), some (.ref 4), some (.ref 6), some (.ref 21), some (.int wl), some (.int (nI c)), none] [] (wd z m') n 0 0 := by
  intro d
  induction d with
  | zero =>
    intro c hc m' h29 h30 h31 hag
    have hc : c = 8 := by omega
    subst hc
    refine r_iload 5 rfl dX0_settle_3 rfl ?_
    refine r_bipush 7 rfl 8 dX0_settle_5 (by decide) ?_
    refine r_icmp_ge 10 40 rfl dX0_settle_7 rfl (fun _ => ?_) (fun q__ => absurd ((nI_leI (a := 8) (b := 8) (by omega) (by omega)).mpr (by omega)) q__)
    refine AW.drop 5 [some (.ref 28), some (.ref 4), some (.ref 6), some (.ref 21), some (.int wl), none, none] rfl ?_
    exact kx m' h29 h30 h31 hag
  | succ d ih =>
    intro c hc m' h29 h30 h31 hag
    refine r_iload 5 rfl dX0_settle_3 rfl ?_
    refine r_bipush 7 rfl 8 dX0_settle_5 (by decide) ?_
    refine r_icmp_ge 10 40 rfl dX0_settle_7 rfl (fun q__ => absurd q__ (fun q__ => absurd ((nI_leI (a := 8) (b := c) (by omega) (by omega)).mp q__) (by omega))) (fun _ => ?_)
    refine r_aload_n 11 rfl 0 dX0_settle_10 rfl rfl ?_
    refine r_getf (v := .ref 29) (k := 0) 14 rfl dX0_settle_11 (gf_X0_9_0 rfl) rfl rfl ?_
    refine r_iload 16 rfl dX0_settle_14 rfl ?_
    refine r_iconst 17 rfl 0 dX0_settle_16 rfl ?_
    refine w_iast 18 rfl c (va_up m' 29 (upd (m' 29) c 0)) dX0_settle_17 (by decide) (by decide) (fun _ => rfl) rfl (by omega) (by decide) rfl ?_
    refine r_aload_n 19 rfl 0 dX0_settle_18 rfl rfl ?_
    refine r_getf (v := .ref 30) (k := 1) 22 rfl dX0_settle_19 (gf_X0_15_0 rfl) rfl rfl ?_
    refine r_iload 24 rfl dX0_settle_22 rfl ?_
    refine r_iconst 25 rfl (-1) dX0_settle_24 rfl ?_
    refine w_iast 26 rfl c (va_up (va_up m' 29 (upd (m' 29) c 0)) 30 (upd (m' 30) c (-1))) dX0_settle_25 (by decide) (by decide) (fun _ => rfl) rfl (by omega) (by decide) rfl ?_
    refine r_aload_n 27 rfl 0 dX0_settle_26 rfl rfl ?_
    refine r_getf (v := .ref 31) (k := 2) 30 rfl dX0_settle_27 (gf_X0_18_0 rfl) rfl rfl ?_
    refine r_iload 32 rfl dX0_settle_30 rfl ?_
    refine r_iconst 33 rfl (-1) dX0_settle_32 rfl ?_
    refine w_iast 34 rfl c (va_up (va_up (va_up m' 29 (upd (m' 29) c 0)) 30 (upd (m' 30) c (-1))) 31 (upd (m' 31) c (-1))) dX0_settle_33 (by decide) (by decide) (fun _ => rfl) rfl (by omega) (by decide) rfl ?_
    refine r_iinc 37 rfl (nI (c + 1)) [some (.ref 28), some (.ref 4), some (.ref 6), some (.ref 21), some (.int wl), some (.int (nI (c + 1))), none] dX0_settle_34 rfl (nI_1 _) (by decide) rfl ?_
    refine r_goto 3 dX0_settle_37 rfl ?_
    refine ih (c + 1) (by omega) _ (fun j hj => ?_) (fun j hj => ?_) (fun j hj => ?_) (ag_up (ag_up (ag_up hag (by decide)) (by decide)) (by decide))
    · show upd (m' 29) c 0 j = _
      unfold upd
      by_cases hjc : j = c
      · rw [if_pos hjc]
      · rw [if_neg hjc]; exact h29 j (by omega)
    · show upd (m' 30) c (-1) j = _
      unfold upd
      by_cases hjc : j = c
      · rw [if_pos hjc]
      · rw [if_neg hjc]; exact h30 j (by omega)
    · show upd (m' 31) c (-1) j = _
      unfold upd
      by_cases hjc : j = c
      · rw [if_pos hjc]
      · rw [if_neg hjc]; exact h31 j (by omega)
set_option maxHeartbeats 4000000 in
set_option maxRecDepth 20000 in
theorem c_settle_21 {Q : am_P} {z : am_Z} {m : Nat → Nat → Int32} {n : Nat} (g : Nat → Nat) (hg : ∀ j, j < 8 → m 5 j = nI (g j) ∧ g j ≤ 2) {fd : Nat} (hfd : m 4 2 = nI fd) {ns wi hr fr : Nat} {kd pa ce sg bn bt : Nat → Nat} {wl : Int32} (hf1 : 0 < ns → 1 ≤ fd) (hf3 : fd ≤ 3) (hns : m 21 0 = nI ns) (hn6 : ns ≤ 6) (hsd : SD z ns kd pa ce sg) (hsb : SB m 21 ns bn bt) (hwi : m 21 3 = nI wi) (hw4 : wi ≤ 4) (hfr : m 21 4 = nI fr) (hr1 : fr ≤ 1) (hhr : m 21 5 = nI hr) (hh : hr < 2 ^ 30) (k : ∀ m', (∀ j, j < 8 → m' 29 j = nI (st_mo (so_am g (sp_b wl) fd wi hr fr kd ce sg bn bt) ns j)) → (∀ j, j < 8 → m' 30 j = st_by (so_am g (sp_b wl) fd wi hr fr kd ce sg bn bt) ns j) → (∀ j, j < 8 → m' 31 j = st_wh (so_am g (sp_b wl) fd wi hr fr kd ce sg bn bt) pa ns j) → ag [29, 30, 31, 32] m m' → Q none (wd z m') n) : AW mX0_settle Q 0 (am_ent (am_l mX0_settle) [.ref 28, .ref 4, .ref 6, .ref 21, .int wl]) [] (wd z m) n 0 0 := by
  show AW _ _ 0 [some (.ref 28), some (.ref 4), some (.ref 6), some (.ref 21), some (.int wl), none, none] [] _ _ 0 0
  refine r_iconst 1 rfl 0 dX0_settle_0 rfl ?_
  refine r_istore 3 rfl [some (.ref 28), some (.ref 4), some (.ref 6), some (.ref 21), some (.int wl), some (.int 0), none] dX0_settle_1 (by decide) rfl ?_
  refine lp_settle0_21 (fun m1 h29 h30 h31 hag1 => ?_) 8 0 rfl m (fun j hj => absurd hj (Nat.not_lt_zero j)) (fun j hj => absurd hj (Nat.not_lt_zero j)) (fun j hj => absurd hj (Nat.not_lt_zero j)) (ag_r _ _)
  refine r_iconst 41 rfl 0 dX0_settle_40 rfl ?_
  refine r_istore 43 rfl [some (.ref 28), some (.ref 4), some (.ref 6), some (.ref 21), some (.int wl), some (.int 0), none] dX0_settle_41 (by decide) rfl ?_
  exact lp_settle_21 g hg hfd hf1 hf3 hns hn6 hsd hsb hwi hw4 hfr hr1 hhr hh k ns 0 (by omega) m1 h29 h30 h31 hag1

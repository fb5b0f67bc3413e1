theorem c_settleA {Q : am_P} {z : am_Z} {m : Nat → Nat → Int32} {n : Nat} {D : Nat → Nat → Nat} (hC : CA z m D) (k : ∀ m', AIR m' D → ag [29, 30, 31, 32] m m' → Q none (wd z m') n) : AW mX0_settle Q 0 (am_ent (am_l mX0_settle) [.ref 28, .ref 4, .ref 6, .ref 21, .int 0]) [] (wd z m) n 0 0 := by
  obtain ⟨hg, hfd, hf3, hf1, hns, hn6, hsd, hsb, hwi, hw4, hfr, hr1, hhr, hh⟩ := id hC
  refine c_settle_21 (wl := 0) (D 0) hg hfd hf1 hf3 hns hn6 hsd hsb hwi hw4 hfr hr1 hhr hh (fun m' h29 h30 h31 hag => ?_)
  rw [sp_b0] at h29 h30 h31
  exact k m' (fun j hj => ⟨h29 j hj, h30 j hj, h31 j hj⟩) hag
theorem CA_of {z : am_Z} {m m' : Nat → Nat → Int32} {D : Nat → Nat → Nat} (hC : C9 z m D) (f0 : m' 21 0 = m 7 0) (f3 : m' 21 3 = m 7 3) (f4 : m' 21 4 = m 7 4) (f5 : m' 21 5 = m 7 5) (g1 : ∀ j, j < 6 → m' 22 j = m 8 j) (g2 : ∀ j, j < 6 → m' 23 j = m 9 j) (e4 : m' 4 = m 4) (e5 : m' 5 = m 5) : CA z m' D := by
  obtain ⟨hg, hfd, hf3, hf1, hns, hn6, hsd, hsb, hwi, hw4, hfr, hr1, hhr, hh⟩ := id hC
  refine ⟨fun j hj => ?_, ?_, hf3, hf1, ?_, hn6, hsd, fun s hs => ?_, ?_, hw4, ?_, hr1, ?_, hh⟩
  · rw [e5]; exact hg j hj
  · rw [e4]; exact hfd
  · rw [f0]; exact hns
  · show m' 22 s = _ ∧ _ ∧ m' 23 s = _ ∧ _; rw [g1 s (by omega), g2 s (by omega)]; exact hsb s hs
  · rw [f3]; exact hwi
  · rw [f4]; exact hfr
  · rw [f5]; exact hhr

set_option maxHeartbeats 4000000 in
set_option maxRecDepth 20000 in
theorem lp_wh1 {Q : am_P} {z : am_Z} {m : Nat → Nat → Int32} {n : Nat} {h : Nat} (hh : h < 24) {who w0 : Nat → Int32} {o : Nat → Nat} (hw : ∀ j, j < 8 → m 31 j = who j) (ho : ∀ j, o j ≤ h) (hz0 : h = 0 → who = w0) (kx : ∀ m', (∀ j, j < 8 → m' 34 j = w0 j ∧ m' 35 j = nI (if o j = h ∧ who j = w0 j then o j + 1 else o j)) → ag [34, 35] m m' → AW mX9_watchHolders Q 127 [some (.ref 1), some (.int (nI h)), none, none] [] (wd z m') n 0 0) : ∀ (d c : Nat), c + d = 8 → ∀ m', (∀ j, j < c → m' 34 j = w0 j ∧ m' 35 j = nI (if o j = h ∧ who j = w0 j then o j + 1 else o j)) → (¬ h = 0 → ∀ j, c ≤ j → j < 8 → m' 34 j = w0 j ∧ m' 35 j = nI (o j)) → ag [34, 35] m m' → AW mX9_watchHolders Q 41 [some (.ref 1), some (.int (nI h)), some (.int (nI c)), none] [] (wd z m') n 0 0 := by
  intro d
  induction d with
  | zero =>
    intro c hc m' h1 h2 hag
    obtain rfl : c = 8 := by omega
    refine r_iload_n 42 rfl 2 dX9_watchHolders_41 rfl rfl ?_
    refine r_bipush 44 rfl 8 dX9_watchHolders_42 (by decide) ?_
    refine r_icmp_ge 47 127 rfl dX9_watchHolders_44 rfl (fun _ => ?_) (fun q__ => absurd ((nI_leI (a := 8) (b := 8) (by omega) (by omega)).mpr (by omega)) q__)
    refine AW.drop 2 [some (.ref 1), some (.int (nI h)), none, none] rfl ?_
    exact kx m' h1 hag
  | succ d ih =>
    intro c hc m' h1 h2 hag
    have e31 : m' 31 c = who c := by rw [hag 31 (by decide)]; exact hw c (by omega)
    have hoc := ho c
    by_cases h0 : h = 0
    · subst h0
      refine r_iload_n 42 rfl 2 dX9_watchHolders_41 rfl rfl ?_
      refine r_bipush 44 rfl 8 dX9_watchHolders_42 (by decide) ?_
      refine r_icmp_ge 47 127 rfl dX9_watchHolders_44 rfl (fun q__ => absurd q__ (fun q__ => absurd ((nI_leI (a := 8) (b := c) (by omega) (by omega)).mp q__) (by omega))) (fun _ => ?_)
      refine r_iload_n 48 rfl 1 dX9_watchHolders_47 rfl rfl ?_
      refine r_if_ne 51 73 rfl dX9_watchHolders_48 rfl (fun q__ => absurd ((nI_eq (a := 0) (b := 0) (by omega) (by omega)).mpr (by omega)) q__) (fun _ => ?_)
      refine r_aload_n 52 rfl 0 dX9_watchHolders_51 rfl rfl ?_
      refine r_getf (v := .ref 34) (k := 8) 55 rfl dX9_watchHolders_52 (gf_X9_53_9 rfl) rfl rfl ?_
      refine r_iload_n 56 rfl 2 dX9_watchHolders_55 rfl rfl ?_
      refine r_aload_n 57 rfl 0 dX9_watchHolders_56 rfl rfl ?_
      refine r_getf (v := .ref 28) (k := 6) 60 rfl dX9_watchHolders_57 (gf_X9_45_9 rfl) rfl rfl ?_
      refine r_getf (v := .ref 31) (k := 2) 63 rfl dX9_watchHolders_60 (gf_X9_183_0 rfl) rfl rfl ?_
      refine r_iload_n 64 rfl 2 dX9_watchHolders_63 rfl rfl ?_
      refine r_iald (f := m' 31) 65 rfl c dX9_watchHolders_64 rfl rfl (by omega) (by decide) ?_
      rw [show (m' 31) c = who c from e31]
      refine w_iast 66 rfl c (va_up m' 34 (upd (m' 34) c (who c))) dX9_watchHolders_65 (by decide) (by decide) (fun _ => rfl) rfl (by omega) (by decide) rfl ?_
      refine r_aload_n 67 rfl 0 dX9_watchHolders_66 rfl rfl ?_
      refine r_getf (v := .ref 35) (k := 9) 70 rfl dX9_watchHolders_67 (gf_X9_56_9 rfl) rfl rfl ?_
      refine r_iload_n 71 rfl 2 dX9_watchHolders_70 rfl rfl ?_
      refine r_iconst 72 rfl 0 dX9_watchHolders_71 rfl ?_
      refine w_iast 73 rfl c (va_up (va_up m' 34 (upd (m' 34) c (who c))) 35 (upd (m' 35) c 0)) dX9_watchHolders_72 (by decide) (by decide) (fun _ => rfl) rfl (by omega) (by decide) rfl ?_
      refine r_aload_n 74 rfl 0 dX9_watchHolders_73 rfl rfl ?_
      refine r_getf (v := .ref 35) (k := 9) 77 rfl dX9_watchHolders_74 (gf_X9_56_9 rfl) rfl rfl ?_
      refine r_iload_n 78 rfl 2 dX9_watchHolders_77 rfl rfl ?_
      refine r_iald (f := upd (m' 35) c 0) 79 rfl c dX9_watchHolders_78 rfl rfl (by omega) (by decide) ?_
      rw [show (upd (m' 35) c 0) c = 0 from (if_pos rfl)]
      refine r_iload_n 80 rfl 1 dX9_watchHolders_79 rfl rfl ?_
      refine r_icmp_ne 83 87 rfl dX9_watchHolders_80 rfl (fun q__ => absurd ((nI_eq (a := 0) (b := 0) (by omega) (by omega)).mpr (by omega)) q__) (fun _ => ?_)
      refine r_iconst 84 rfl 1 dX9_watchHolders_83 rfl ?_
      refine r_goto 88 dX9_watchHolders_84 rfl ?_
      refine r_istore_n 89 rfl 3 [some (.ref 1), some (.int (nI 0)), some (.int (nI c)), some (.int 1)] dX9_watchHolders_88 rfl (by decide) rfl ?_
      refine r_iload_n 90 rfl 3 dX9_watchHolders_89 rfl rfl ?_
      refine r_if_eq 93 121 rfl dX9_watchHolders_90 rfl (fun q__ => absurd q__ (by decide)) (fun _ => ?_)
      refine r_aload_n 94 rfl 0 dX9_watchHolders_93 rfl rfl ?_
      refine r_getf (v := .ref 28) (k := 6) 97 rfl dX9_watchHolders_94 (gf_X9_45_9 rfl) rfl rfl ?_
      refine r_getf (v := .ref 31) (k := 2) 100 rfl dX9_watchHolders_97 (gf_X9_183_0 rfl) rfl rfl ?_
      refine r_iload_n 101 rfl 2 dX9_watchHolders_100 rfl rfl ?_
      refine r_iald (f := m' 31) 102 rfl c dX9_watchHolders_101 rfl rfl (by omega) (by decide) ?_
      rw [show (m' 31) c = who c from e31]
      refine r_aload_n 103 rfl 0 dX9_watchHolders_102 rfl rfl ?_
      refine r_getf (v := .ref 34) (k := 8) 106 rfl dX9_watchHolders_103 (gf_X9_53_9 rfl) rfl rfl ?_
      refine r_iload_n 107 rfl 2 dX9_watchHolders_106 rfl rfl ?_
      refine r_iald (f := upd (m' 34) c (who c)) 108 rfl c dX9_watchHolders_107 rfl rfl (by omega) (by decide) ?_
      rw [show (upd (m' 34) c (who c)) c = who c from (if_pos rfl)]
      refine r_icmp_ne 111 121 rfl dX9_watchHolders_108 rfl (fun q__ => absurd rfl q__) (fun _ => ?_)
      refine r_aload_n 112 rfl 0 dX9_watchHolders_111 rfl rfl ?_
      refine r_getf (v := .ref 35) (k := 9) 115 rfl dX9_watchHolders_112 (gf_X9_56_9 rfl) rfl rfl ?_
      refine r_iload_n 116 rfl 2 dX9_watchHolders_115 rfl rfl ?_
      refine r_dup2 117 rfl dX9_watchHolders_116 rfl rfl ?_
      refine r_iald (f := upd (m' 35) c 0) 118 rfl c dX9_watchHolders_117 rfl rfl (by omega) (by decide) ?_
      rw [show (upd (m' 35) c 0) c = 0 from (if_pos rfl)]
      refine r_iconst 119 rfl 1 dX9_watchHolders_118 rfl ?_
      refine r_iadd 120 rfl dX9_watchHolders_119 ?_
      rw [show 0 + 1 = nI 1 from rfl]
      refine w_iast 121 rfl c (va_up (va_up (va_up m' 34 (upd (m' 34) c (who c))) 35 (upd (m' 35) c 0)) 35 (upd (upd (m' 35) c 0) c (nI 1))) dX9_watchHolders_120 (by decide) (by decide) (fun _ => rfl) rfl (by omega) (by decide) rfl ?_
      refine r_iinc 124 rfl (nI (c + 1)) [some (.ref 1), some (.int (nI 0)), some (.int (nI (c + 1))), some (.int 1)] dX9_watchHolders_121 rfl (nI_1 _) (by decide) rfl ?_
      refine r_goto 41 dX9_watchHolders_124 rfl ?_
      refine AW.drop 3 [some (.ref 1), some (.int (nI 0)), some (.int (nI (c + 1))), none] rfl ?_
      have hoc0 : o c = 0 := by omega
      refine ih (c + 1) (by omega) _ (fun j hj => ?_) (fun q => absurd rfl q) (ag_up (ag_up (ag_up hag (by decide)) (by decide)) (by decide))
      by_cases hjc : j = c
      · subst hjc
        refine ⟨?_, ?_⟩
        · show upd (m' 34) j (who j) j = w0 j; unfold upd; rw [if_pos rfl, hz0 rfl]
        · show upd (upd (m' 35) j 0) j (nI 1) j = _; unfold upd; rw [if_pos rfl, if_pos ⟨hoc0, by rw [hz0 rfl]⟩, hoc0]
      · refine ⟨?_, ?_⟩
        · show upd (m' 34) c (who c) j = w0 j; unfold upd; rw [if_neg hjc]; exact (h1 j (by omega)).1
        · show upd (upd (m' 35) c 0) c (nI 1) j = _; unfold upd; rw [if_neg hjc, if_neg hjc]; exact (h1 j (by omega)).2
    · obtain ⟨e34, e35⟩ := h2 h0 c (Nat.le_refl c) (by omega)
      refine r_iload_n 42 rfl 2 dX9_watchHolders_41 rfl rfl ?_
      refine r_bipush 44 rfl 8 dX9_watchHolders_42 (by decide) ?_
      refine r_icmp_ge 47 127 rfl dX9_watchHolders_44 rfl (fun q__ => absurd q__ (fun q__ => absurd ((nI_leI (a := 8) (b := c) (by omega) (by omega)).mp q__) (by omega))) (fun _ => ?_)
      refine r_iload_n 48 rfl 1 dX9_watchHolders_47 rfl rfl ?_
      refine r_if_ne 51 73 rfl dX9_watchHolders_48 rfl (fun _ => ?_) (fun q__ => absurd q__ (fun q__ => absurd ((nI_eq (a := h) (b := 0) (by omega) (by omega)).mp q__) (by omega)))
      refine r_aload_n 74 rfl 0 dX9_watchHolders_73 rfl rfl ?_
      refine r_getf (v := .ref 35) (k := 9) 77 rfl dX9_watchHolders_74 (gf_X9_56_9 rfl) rfl rfl ?_
      refine r_iload_n 78 rfl 2 dX9_watchHolders_77 rfl rfl ?_
      refine r_iald (f := m' 35) 79 rfl c dX9_watchHolders_78 rfl rfl (by omega) (by decide) ?_
      rw [show (m' 35) c = nI (o c) from e35]
      refine r_iload_n 80 rfl 1 dX9_watchHolders_79 rfl rfl ?_
      refine r_icmp_ne 83 87 rfl dX9_watchHolders_80 rfl (fun c80 => ?_) (fun c80 => ?_)
      · replace c80 : ¬ (o c) = h := fun q__ => c80 ((nI_eq (a := (o c)) (b := h) (by omega) (by omega)).mpr q__)
        have hno : ¬ (o c = h ∧ who c = w0 c) := fun q => c80 q.1
        refine r_iconst 88 rfl 0 dX9_watchHolders_87 rfl ?_
        refine r_istore_n 89 rfl 3 [some (.ref 1), some (.int (nI h)), some (.int (nI c)), some (.int 0)] dX9_watchHolders_88 rfl (by decide) rfl ?_
        refine r_iload_n 90 rfl 3 dX9_watchHolders_89 rfl rfl ?_
        refine r_if_eq 93 121 rfl dX9_watchHolders_90 rfl (fun _ => ?_) (fun q__ => absurd (by decide) q__)
        refine r_iinc 124 rfl (nI (c + 1)) [some (.ref 1), some (.int (nI h)), some (.int (nI (c + 1))), some (.int 0)] dX9_watchHolders_121 rfl (nI_1 _) (by decide) rfl ?_
        refine r_goto 41 dX9_watchHolders_124 rfl ?_
        refine AW.drop 3 [some (.ref 1), some (.int (nI h)), some (.int (nI (c + 1))), none] rfl ?_
        refine ih (c + 1) (by omega) m' (fun j hj => ?_) (fun q j h3 h4 => h2 q j (by omega) h4) hag
        by_cases hjc : j = c
        · subst hjc; rw [if_neg hno]; exact ⟨e34, e35⟩
        · exact h1 j (by omega)
      · replace c80 : o c = h := (nI_eq (a := (o c)) (b := h) (by omega) (by omega)).mp c80
        refine r_iconst 84 rfl 1 dX9_watchHolders_83 rfl ?_
        refine r_goto 88 dX9_watchHolders_84 rfl ?_
        refine r_istore_n 89 rfl 3 [some (.ref 1), some (.int (nI h)), some (.int (nI c)), some (.int 1)] dX9_watchHolders_88 rfl (by decide) rfl ?_
        refine r_iload_n 90 rfl 3 dX9_watchHolders_89 rfl rfl ?_
        refine r_if_eq 93 121 rfl dX9_watchHolders_90 rfl (fun q__ => absurd q__ (by decide)) (fun _ => ?_)
        refine r_aload_n 94 rfl 0 dX9_watchHolders_93 rfl rfl ?_
        refine r_getf (v := .ref 28) (k := 6) 97 rfl dX9_watchHolders_94 (gf_X9_45_9 rfl) rfl rfl ?_
        refine r_getf (v := .ref 31) (k := 2) 100 rfl dX9_watchHolders_97 (gf_X9_183_0 rfl) rfl rfl ?_
        refine r_iload_n 101 rfl 2 dX9_watchHolders_100 rfl rfl ?_
        refine r_iald (f := m' 31) 102 rfl c dX9_watchHolders_101 rfl rfl (by omega) (by decide) ?_
        rw [show (m' 31) c = who c from e31]
        refine r_aload_n 103 rfl 0 dX9_watchHolders_102 rfl rfl ?_
        refine r_getf (v := .ref 34) (k := 8) 106 rfl dX9_watchHolders_103 (gf_X9_53_9 rfl) rfl rfl ?_
        refine r_iload_n 107 rfl 2 dX9_watchHolders_106 rfl rfl ?_
        refine r_iald (f := m' 34) 108 rfl c dX9_watchHolders_107 rfl rfl (by omega) (by decide) ?_
        rw [show (m' 34) c = w0 c from e34]
        refine r_icmp_ne 111 121 rfl dX9_watchHolders_108 rfl (fun c108 => ?_) (fun c108 => ?_)
        · have hno : ¬ (o c = h ∧ who c = w0 c) := fun q => c108 q.2
          refine r_iinc 124 rfl (nI (c + 1)) [some (.ref 1), some (.int (nI h)), some (.int (nI (c + 1))), some (.int 1)] dX9_watchHolders_121 rfl (nI_1 _) (by decide) rfl ?_
          refine r_goto 41 dX9_watchHolders_124 rfl ?_
          refine AW.drop 3 [some (.ref 1), some (.int (nI h)), some (.int (nI (c + 1))), none] rfl ?_
          refine ih (c + 1) (by omega) m' (fun j hj => ?_) (fun q j h3 h4 => h2 q j (by omega) h4) hag
          by_cases hjc : j = c
          · subst hjc; rw [if_neg hno]; exact ⟨e34, e35⟩
          · exact h1 j (by omega)
        · have hye : o c = h ∧ who c = w0 c := ⟨c80, c108⟩
          refine r_aload_n 112 rfl 0 dX9_watchHolders_111 rfl rfl ?_
          refine r_getf (v := .ref 35) (k := 9) 115 rfl dX9_watchHolders_112 (gf_X9_56_9 rfl) rfl rfl ?_
          refine r_iload_n 116 rfl 2 dX9_watchHolders_115 rfl rfl ?_
          refine r_dup2 117 rfl dX9_watchHolders_116 rfl rfl ?_
          refine r_iald (f := m' 35) 118 rfl c dX9_watchHolders_117 rfl rfl (by omega) (by decide) ?_
          rw [show (m' 35) c = nI (o c) from e35]
          refine r_iconst 119 rfl 1 dX9_watchHolders_118 rfl ?_
          refine r_iadd 120 rfl dX9_watchHolders_119 ?_
          rw [show (nI (o c)) + 1 = nI ((o c) + 1) from nI_add (o c) 1]
          refine w_iast 121 rfl c (va_up m' 35 (upd (m' 35) c (nI ((o c) + 1)))) dX9_watchHolders_120 (by decide) (by decide) (fun _ => rfl) rfl (by omega) (by decide) rfl ?_
          refine r_iinc 124 rfl (nI (c + 1)) [some (.ref 1), some (.int (nI h)), some (.int (nI (c + 1))), some (.int 1)] dX9_watchHolders_121 rfl (nI_1 _) (by decide) rfl ?_
          refine r_goto 41 dX9_watchHolders_124 rfl ?_
          refine AW.drop 3 [some (.ref 1), some (.int (nI h)), some (.int (nI (c + 1))), none] rfl ?_
          refine ih (c + 1) (by omega) _ (fun j hj => ?_) (fun q j h3 h4 => ?_) (ag_up hag (by decide))
          · by_cases hjc : j = c
            · subst hjc
              refine ⟨e34, ?_⟩
              show upd (m' 35) j (nI (o j + 1)) j = _; unfold upd; rw [if_pos rfl, if_pos hye]
            · refine ⟨(h1 j (by omega)).1, ?_⟩
              show upd (m' 35) c (nI (o c + 1)) j = _; unfold upd; rw [if_neg hjc]; exact (h1 j (by omega)).2
          · refine ⟨(h2 q j (by omega) h4).1, ?_⟩
            show upd (m' 35) c (nI (o c + 1)) j = _; unfold upd; rw [if_neg (show ¬ j = c by omega)]; exact (h2 q j (by omega) h4).2

set_option maxHeartbeats 4000000 in
set_option maxRecDepth 20000 in
theorem lp_wh2 {Q : am_P} {z : am_Z} {m : Nat → Nat → Int32} {n : Nat} {D : Nat → Nat → Nat} (hC : CA z m D) (hB : BD D 100) (k : ∀ m', (∀ j, j < 8 → m' 34 j = WH D j ∧ m' 35 j = nI (ru (hW D j (WH D j)) 24)) → ag [21, 23, 29, 30, 31, 32, 34, 35] m m' → Q none (wd z m') n) : ∀ (d h : Nat), h + d = 24 → ∀ m', CA z m' (EHn D h) → (¬ h = 0 → ∀ j, j < 8 → m' 34 j = WH D j ∧ m' 35 j = nI (ru (hW D j (WH D j)) h)) → ag [21, 23, 29, 30, 31, 32, 34, 35] m m' → AW mX9_watchHolders Q 13 [some (.ref 1), some (.int (nI h)), none, none] [] (wd z m') n 0 0 := by
  intro d
  induction d with
  | zero =>
    intro h hh m' hC' ho hag
    obtain rfl : h = 24 := by omega
    refine r_iload_n 14 rfl 1 dX9_watchHolders_13 rfl rfl ?_
    refine r_bipush 16 rfl 24 dX9_watchHolders_14 (by decide) ?_
    refine r_icmp_ge 19 140 rfl dX9_watchHolders_16 rfl (fun _ => ?_) (fun q__ => absurd ((nI_leI (a := 24) (b := 24) (by omega) (by omega)).mpr (by omega)) q__)
    refine r_return rfl dX9_watchHolders_140 (Nat.le_of_ble_eq_true rfl) (Nat.le_of_ble_eq_true rfl) ?_
    exact k m' (ho (by decide)) hag
  | succ d ih =>
    intro h hh m' hC' ho hag
    refine r_iload_n 14 rfl 1 dX9_watchHolders_13 rfl rfl ?_
    refine r_bipush 16 rfl 24 dX9_watchHolders_14 (by decide) ?_
    refine r_icmp_ge 19 140 rfl dX9_watchHolders_16 rfl (fun q__ => absurd q__ (fun q__ => absurd ((nI_leI (a := 24) (b := h) (by omega) (by omega)).mp q__) (by omega))) (fun _ => ?_)
    refine r_aload_n 20 rfl 0 dX9_watchHolders_19 rfl rfl ?_
    refine r_getf (v := .ref 28) (k := 6) 23 rfl dX9_watchHolders_20 (gf_X9_45_9 rfl) rfl rfl ?_
    refine r_aload_n 24 rfl 0 dX9_watchHolders_23 rfl rfl ?_
    refine r_getf (v := .ref 4) (k := 1) 27 rfl dX9_watchHolders_24 (gf_X9_19_9 rfl) rfl rfl ?_
    refine r_aload_n 28 rfl 0 dX9_watchHolders_27 rfl rfl ?_
    refine r_getf (v := .ref 6) (k := 2) 31 rfl dX9_watchHolders_28 (gf_X9_25_9 rfl) rfl rfl ?_
    refine r_aload_n 32 rfl 0 dX9_watchHolders_31 rfl rfl ?_
    refine r_getf (v := .ref 21) (k := 5) 35 rfl dX9_watchHolders_32 (gf_X9_39_9 rfl) rfl rfl ?_
    refine r_iconst 36 rfl 0 dX9_watchHolders_35 rfl ?_
    refine q_V 39 0 0 rfl [.ref 4, .ref 6, .ref 21, .int 0] rfl dX9_watchHolders_36 cl_X9_watchHolders__X0_settle (lk_X9_247 rfl) im_X0_settle (ci := 0) rfl sl_X0__X0_settle rfl (Nat.le_of_ble_eq_true rfl) (fun _ _ => Nat.le_of_ble_eq_true rfl) rfl rfl (Nat.le_of_ble_eq_true rfl) (Nat.le_of_ble_eq_true rfl) ?_
    refine c_settleA hC' (fun m2 hA hag2 => (k_v ?_))
    refine r_iconst 40 rfl 0 dX9_watchHolders_39 rfl ?_
    refine r_istore_n 41 rfl 2 [some (.ref 1), some (.int (nI h)), some (.int 0), none] dX9_watchHolders_40 rfl (by decide) rfl ?_
    refine lp_wh1 (who := WH (EHn D h)) (w0 := WH D) (o := fun j => ru (hW D j (WH D j)) h) (by omega) (fun j hj => (hA j hj).2.2) (fun j => ru_le _ _) (fun q => by subst q; rfl) (fun m3 h3 hag3 => ?_) 8 0 rfl m2 (fun j hj => absurd hj (Nat.not_lt_zero j)) (fun q j _ hj => by rw [hag2 34 (by decide), hag2 35 (by decide)]; exact ho q j hj) (ag_r _ _)
    have hC3 : CA z m3 (EHn D h) := CA_ag (CA_ag hC' hag2 (by decide)) hag3 (by decide)
    refine r_aload_n 128 rfl 0 dX9_watchHolders_127 rfl rfl ?_
    refine r_getf (v := .ref 21) (k := 5) 131 rfl dX9_watchHolders_128 (gf_X9_39_9 rfl) rfl rfl ?_
    refine q_V 134 0 0 rfl [] rfl dX9_watchHolders_131 cl_X9_watchHolders__X5_endHour (lk_X9_189 rfl) im_X5_endHour (ci := 5) rfl sl_X5__X5_endHour rfl (Nat.le_of_ble_eq_true rfl) (fun _ _ => Nat.le_of_ble_eq_true rfl) rfl rfl (Nat.le_of_ble_eq_true rfl) (Nat.le_of_ble_eq_true rfl) ?_
    refine c_endHour_21 hC3 (BD_n h 1 (BD_le hB (by omega))) (fun m4 hC4 _ hag4 => (k_v ?_))
    refine r_iinc 137 rfl (nI (h + 1)) [some (.ref 1), some (.int (nI (h + 1))), none, none] dX9_watchHolders_134 rfl (nI_1 _) (by decide) rfl ?_
    refine r_goto 13 dX9_watchHolders_137 rfl ?_
    refine ih (h + 1) (by omega) m4 hC4 (fun _ j hj => ?_) (ag_t (ag_t (ag_t hag hag2 (by decide)) hag3 (by decide)) hag4 (by decide))
    rw [hag4 34 (by decide), hag4 35 (by decide)]
    obtain ⟨q1, q2⟩ := h3 j hj
    refine ⟨q1, q2.trans ?_⟩
    congr 1
    show (if ru (hW D j (WH D j)) h = h ∧ WH (EHn D h) j = WH D j then ru (hW D j (WH D j)) h + 1 else ru (hW D j (WH D j)) h) = (if ru (hW D j (WH D j)) h = h ∧ decide (WH (EHn D h) j = WH D j) = true then h + 1 else ru (hW D j (WH D j)) h)
    by_cases q : ru (hW D j (WH D j)) h = h ∧ WH (EHn D h) j = WH D j
    · rw [if_pos q, if_pos ⟨q.1, decide_eq_true q.2⟩, q.1]
    · rw [if_neg q, if_neg (fun x => q ⟨x.1, of_decide_eq_true x.2⟩)]

set_option maxHeartbeats 4000000 in
set_option maxRecDepth 20000 in
theorem c_watch {Q : am_P} {z : am_Z} {m : Nat → Nat → Int32} {n : Nat} {D : Nat → Nat → Nat} (hC : C9 z m D) (hbl : BL m 7) (hB : BD D 100) (k : ∀ m', (∀ j, j < 8 → m' 34 j = WH D j ∧ m' 35 j = nI (ru (hW D j (WH D j)) 24)) → ag [21, 22, 23, 24, 25, 26, 27, 29, 30, 31, 32, 34, 35] m m' → Q none (wd z m') n) : AW mX9_watchHolders Q 0 (am_ent (am_l mX9_watchHolders) [.ref 1]) [] (wd z m) n 0 0 := by
  show AW _ _ 0 [some (.ref 1), none, none, none] [] _ _ 0 0
  obtain ⟨hg, hfd, hf3, hf0, hns, hn6, hsd, hsb, hwi, hw4, hfr, hr1, hhr, hh⟩ := id hC
  refine r_aload_n 1 rfl 0 dX9_watchHolders_0 rfl rfl ?_
  refine r_getf (v := .ref 21) (k := 5) 4 rfl dX9_watchHolders_1 (gf_X9_39_9 rfl) rfl rfl ?_
  refine r_aload_n 5 rfl 0 dX9_watchHolders_4 rfl rfl ?_
  refine r_getf (v := .ref 7) (k := 3) 8 rfl dX9_watchHolders_5 (gf_X9_32_9 rfl) rfl rfl ?_
  refine q_V 11 0 0 rfl [.ref 7] rfl dX9_watchHolders_8 cl_X9_watchHolders__X5_copyFrom (lk_X9_85 rfl) im_X5_copyFrom (ci := 5) rfl sl_X5__X5_copyFrom rfl (Nat.le_of_ble_eq_true rfl) (fun _ _ => Nat.le_of_ble_eq_true rfl) rfl rfl (Nat.le_of_ble_eq_true rfl) (Nat.le_of_ble_eq_true rfl) ?_
  refine c_cf_21_7 hbl hfr hr1 (fun m1 g0 g1 g2 g3 g4 g5 g6 hag => (k_v ?_))
  refine r_iconst 12 rfl 0 dX9_watchHolders_11 rfl ?_
  refine r_istore_n 13 rfl 1 [some (.ref 1), some (.int 0), none, none] dX9_watchHolders_12 rfl (by decide) rfl ?_
  have hCA : CA z m1 D := CA_of hC g0.1 g0.2.1 g0.2.2.1 g0.2.2.2.1 g1 g2 (hag 4 (by decide)) (hag 5 (by decide))
  exact lp_wh2 hCA hB (fun m2 h2 hag2 => k m2 h2 (ag_t (ag_w hag (by decide)) hag2 (by decide))) 24 0 rfl m1 hCA (fun q => absurd rfl q) (ag_r _ _)

set_option maxHeartbeats 4000000 in
set_option maxRecDepth 20000 in
theorem c_heldBy {Q : am_P} {z : am_Z} {m : Nat → Nat → Int32} {n : Nat} {D : Nat → Nat → Nat} (hh : ∀ j, j < 8 → m 34 j = WH D j ∧ m 35 j = nI (ru (hW D j (WH D j)) 24)) {c p : Nat} (hc : c < 8) (hp : p < 3) (k : Q (some (.int (nI (rv D c p)))) (wd z m) n) : AW mX9_heldBy Q 0 (am_ent (am_l mX9_heldBy) [.ref 1, .int (nI c), .int (nI p)]) [] (wd z m) n 0 0 := by
  show AW _ _ 0 [some (.ref 1), some (.int (nI c)), some (.int (nI p))] [] _ _ 0 0
  obtain ⟨e34, e35⟩ := hh c hc
  refine r_aload_n 1 rfl 0 dX9_heldBy_0 rfl rfl ?_
  refine r_getf (v := .ref 34) (k := 8) 4 rfl dX9_heldBy_1 (gf_X9_53_9 rfl) rfl rfl ?_
  refine r_iload_n 5 rfl 1 dX9_heldBy_4 rfl rfl ?_
  refine r_iald (f := m 34) 6 rfl c dX9_heldBy_5 rfl rfl (by omega) (by decide) ?_
  rw [show (m 34) c = WH D c from e34]
  refine r_iload_n 7 rfl 2 dX9_heldBy_6 rfl rfl ?_
  refine r_icmp_ne 10 19 rfl dX9_heldBy_7 rfl (fun c7 => ?_) (fun c7 => ?_)
  · rw [rv_0 c7] at k
    refine r_iconst 20 rfl 0 dX9_heldBy_19 rfl ?_
    refine r_ireturn rfl dX9_heldBy_20 (Nat.le_of_ble_eq_true rfl) (Nat.le_of_ble_eq_true rfl) ?_
    exact k
  · unfold rv at k
    rw [← c7] at k
    refine r_aload_n 11 rfl 0 dX9_heldBy_10 rfl rfl ?_
    refine r_getf (v := .ref 35) (k := 9) 14 rfl dX9_heldBy_11 (gf_X9_56_9 rfl) rfl rfl ?_
    refine r_iload_n 15 rfl 1 dX9_heldBy_14 rfl rfl ?_
    refine r_iald (f := m 35) 16 rfl c dX9_heldBy_15 rfl rfl (by omega) (by decide) ?_
    rw [show (m 35) c = nI (ru (hW D c (WH D c)) 24) from e35]
    refine r_goto 20 dX9_heldBy_16 rfl ?_
    refine r_ireturn rfl dX9_heldBy_20 (Nat.le_of_ble_eq_true rfl) (Nat.le_of_ble_eq_true rfl) ?_
    exact k

set_option maxHeartbeats 4000000 in
set_option maxRecDepth 20000 in
theorem lp_hold {Q : am_P} {z : am_Z} {m : Nat → Nat → Int32} {n : Nat} {D : Nat → Nat → Nat} (hB : BD D 100) {m0 : Nat → Nat → Int32} {c p : Nat} (hc : c < 8) (hp : p < 3) (k : ∀ m', (∀ j, j ≠ 5 → m' 37 j = m0 37 j) → ag [37, 42, 43, 44, 45] m0 m' → AW mX10_holdOf Q 53 [some (.ref 37), none, none, some (.int (m0 37 5)), some (.int (nI (rv D c p)))] [] (wd z m') n 0 0) : ∀ (d h : Nat), h + d = 24 → ru (hW D c (nI p)) h = h → ∀ m', C10 m' (EHn D h) → MIR m' (EHn D h) → (∀ j, j ≠ 5 → m' 37 j = m0 37 j) → ag [37, 42, 43, 44, 45] m0 m' → AW mX10_holdOf Q 23 [some (.ref 37), some (.int (nI c)), some (.int (nI p)), some (.int (m0 37 5)), some (.int (nI h))] [] (wd z m') n 0 0 := by
  intro d
  induction d with
  | zero =>
    intro h hh hr m' hC' hM h37 hag
    obtain rfl : h = 24 := by omega
    have kr := k m' h37 hag
    rw [show rv D c p = 24 from hr] at kr
    refine r_iload 25 rfl dX10_holdOf_23 rfl ?_
    refine r_bipush 27 rfl 24 dX10_holdOf_25 (by decide) ?_
    refine r_icmp_ge 30 53 rfl dX10_holdOf_27 rfl (fun _ => ?_) (fun q__ => absurd ((nI_leI (a := 24) (b := 24) (by omega) (by omega)).mpr (by omega)) q__)
    refine AW.drop 1 [some (.ref 37), none, some (.int (nI p)), some (.int (m0 37 5)), some (.int (nI 24))] rfl ?_
    refine AW.drop 2 [some (.ref 37), none, none, some (.int (m0 37 5)), some (.int (nI 24))] rfl ?_
    exact kr
  | succ d ih =>
    intro h hh hr m' hC' hM h37 hag
    by_cases hW0 : WH (EHn D h) c = nI p
    · refine r_iload 25 rfl dX10_holdOf_23 rfl ?_
      refine r_bipush 27 rfl 24 dX10_holdOf_25 (by decide) ?_
      refine r_icmp_ge 30 53 rfl dX10_holdOf_27 rfl (fun q__ => absurd q__ (fun q__ => absurd ((nI_leI (a := 24) (b := h) (by omega) (by omega)).mp q__) (by omega))) (fun _ => ?_)
      refine r_aload_n 31 rfl 0 dX10_holdOf_30 rfl rfl ?_
      refine r_iload_n 32 rfl 1 dX10_holdOf_31 rfl rfl ?_
      refine q_V 35 0 0 rfl [.int (nI c)] rfl dX10_holdOf_32 cl_X10_holdOf__X10_whose (lk_X10_152 rfl) im_X10_whose (ci := 10) rfl sl_X10__X10_whose rfl (Nat.le_of_ble_eq_true rfl) (fun _ _ => Nat.le_of_ble_eq_true rfl) rfl rfl (Nat.le_of_ble_eq_true rfl) (Nat.le_of_ble_eq_true rfl) ?_
      refine c_who hC' hM hc (k_i ?_)
      refine r_iload_n 36 rfl 2 dX10_holdOf_35 rfl rfl ?_
      refine r_icmp_ne 39 53 rfl dX10_holdOf_36 rfl (fun q__ => absurd hW0 q__) (fun _ => ?_)
      refine r_iinc 42 rfl (nI (h + 1)) [some (.ref 37), some (.int (nI c)), some (.int (nI p)), some (.int (m0 37 5)), some (.int (nI (h + 1)))] dX10_holdOf_39 rfl (nI_1 _) (by decide) rfl ?_
      refine r_aload_n 43 rfl 0 dX10_holdOf_42 rfl rfl ?_
      refine q_V 46 0 0 rfl [] rfl dX10_holdOf_43 cl_X10_holdOf__X10_ends (lk_X10_173 rfl) im_X10_ends (ci := 10) rfl sl_X10__X10_ends rfl (Nat.le_of_ble_eq_true rfl) (fun _ _ => Nat.le_of_ble_eq_true rfl) rfl rfl (Nat.le_of_ble_eq_true rfl) (Nat.le_of_ble_eq_true rfl) ?_
      refine c_ends hC' (BD_n h 1 (BD_le hB (by omega))) (fun m2 hC2 _ e37 hag2 => (k_v ?_))
      refine r_aload_n 47 rfl 0 dX10_holdOf_46 rfl rfl ?_
      refine q_V 50 0 0 rfl [] rfl dX10_holdOf_47 cl_X10_holdOf__X10_layCells (lk_X10_149 rfl) im_X10_layCells (ci := 10) rfl sl_X10__X10_layCells rfl (Nat.le_of_ble_eq_true rfl) (fun _ _ => Nat.le_of_ble_eq_true rfl) rfl rfl (Nat.le_of_ble_eq_true rfl) (Nat.le_of_ble_eq_true rfl) ?_
      refine c_layC hC2 (fun m3 hM3 hag3 => (k_v ?_))
      refine r_goto 23 dX10_holdOf_50 rfl ?_
      refine ih (h + 1) (by omega) (ru_s hr (decide_eq_true hW0)) m3 (C10_ag hC2 hag3 (by decide)) hM3 (fun j hj => ?_) (ag_t (ag_t hag hag2 (by decide)) hag3 (by decide))
      rw [hag3 37 (by decide), e37]; unfold upd; rw [if_neg hj]; exact h37 j hj
    · have kr := k m' h37 hag
      have er : rv D c p = h := by have e := ru_x hr (fun q => hW0 (of_decide_eq_true q)) (d + 1); rw [hh] at e; exact e
      rw [er] at kr
      refine r_iload 25 rfl dX10_holdOf_23 rfl ?_
      refine r_bipush 27 rfl 24 dX10_holdOf_25 (by decide) ?_
      refine r_icmp_ge 30 53 rfl dX10_holdOf_27 rfl (fun q__ => absurd q__ (fun q__ => absurd ((nI_leI (a := 24) (b := h) (by omega) (by omega)).mp q__) (by omega))) (fun _ => ?_)
      refine r_aload_n 31 rfl 0 dX10_holdOf_30 rfl rfl ?_
      refine r_iload_n 32 rfl 1 dX10_holdOf_31 rfl rfl ?_
      refine q_V 35 0 0 rfl [.int (nI c)] rfl dX10_holdOf_32 cl_X10_holdOf__X10_whose (lk_X10_152 rfl) im_X10_whose (ci := 10) rfl sl_X10__X10_whose rfl (Nat.le_of_ble_eq_true rfl) (fun _ _ => Nat.le_of_ble_eq_true rfl) rfl rfl (Nat.le_of_ble_eq_true rfl) (Nat.le_of_ble_eq_true rfl) ?_
      refine c_who hC' hM hc (k_i ?_)
      refine r_iload_n 36 rfl 2 dX10_holdOf_35 rfl rfl ?_
      refine r_icmp_ne 39 53 rfl dX10_holdOf_36 rfl (fun _ => ?_) (fun q__ => absurd q__ hW0)
      refine AW.drop 1 [some (.ref 37), none, some (.int (nI p)), some (.int (m0 37 5)), some (.int (nI h))] rfl ?_
      refine AW.drop 2 [some (.ref 37), none, none, some (.int (m0 37 5)), some (.int (nI h))] rfl ?_
      exact kr

set_option maxHeartbeats 4000000 in
set_option maxRecDepth 20000 in
theorem c_holdOf {Q : am_P} {z : am_Z} {m : Nat → Nat → Int32} {n : Nat} {D : Nat → Nat → Nat} (hC : C10 m D) (hB : BD D 100) {c p : Nat} (hc : c < 8) (hp : p < 3) (k : ∀ m', (∀ j, j < 42 → m' 42 j = m 42 j) → ag [42, 43, 44, 45, 47] m m' → Q (some (.int (nI (rv D c p)))) (wd z m') n) : AW mX10_holdOf Q 0 (am_ent (am_l mX10_holdOf) [.ref 37, .int (nI c), .int (nI p)]) [] (wd z m) n 0 0 := by
  show AW _ _ 0 [some (.ref 37), some (.int (nI c)), some (.int (nI p)), none, none] [] _ _ 0 0
  refine r_aload_n 1 rfl 0 dX10_holdOf_0 rfl rfl ?_
  refine r_getf (v := .ref 42) (k := 11) 4 rfl dX10_holdOf_1 (gf_X10_22_10 rfl) rfl rfl ?_
  refine r_aload_n 5 rfl 0 dX10_holdOf_4 rfl rfl ?_
  refine r_getf (v := .ref 47) (k := 17) 8 rfl dX10_holdOf_5 (gf_X10_37_10 rfl) rfl rfl ?_
  refine q_S 11 0 0 rfl [.ref 42, .ref 47] rfl dX10_holdOf_8 cl_X10_holdOf__X10_copy (lk_X10_186 rfl) st_X10_copy (Nat.le_of_ble_eq_true rfl) (fun _ _ => Nat.le_of_ble_eq_true rfl) rfl rfl (Nat.le_of_ble_eq_true rfl) (Nat.le_of_ble_eq_true rfl) ?_
  refine c_cp_42_47 (fun m1 r47 hag1 => (k_v ?_))
  have hC1 := C10_ag hC hag1 (by decide)
  refine r_aload_n 12 rfl 0 dX10_holdOf_11 rfl rfl ?_
  refine r_getf (v := .int ((m1 37) 5)) (k := 5) 15 rfl dX10_holdOf_12 (gf_X10_92_10 rfl) rfl rfl ?_
  refine r_istore_n 16 rfl 3 [some (.ref 37), some (.int (nI c)), some (.int (nI p)), some (.int ((m1 37) 5)), none] dX10_holdOf_15 rfl (by decide) rfl ?_
  refine r_iconst 17 rfl 0 dX10_holdOf_16 rfl ?_
  refine r_istore 19 rfl [some (.ref 37), some (.int (nI c)), some (.int (nI p)), some (.int ((m1 37) 5)), some (.int 0)] dX10_holdOf_17 (by decide) rfl ?_
  refine r_aload_n 20 rfl 0 dX10_holdOf_19 rfl rfl ?_
  refine q_V 23 0 0 rfl [] rfl dX10_holdOf_20 cl_X10_holdOf__X10_layCells (lk_X10_149 rfl) im_X10_layCells (ci := 10) rfl sl_X10__X10_layCells rfl (Nat.le_of_ble_eq_true rfl) (fun _ _ => Nat.le_of_ble_eq_true rfl) rfl rfl (Nat.le_of_ble_eq_true rfl) (Nat.le_of_ble_eq_true rfl) ?_
  refine c_layC hC1 (fun m2 hM hag2 => (k_v ?_))
  have e5 : m1 37 5 = m2 37 5 := by rw [hag2 37 (by decide)]
  rw [e5]
  refine lp_hold (m := m2) (m0 := m2) hB hc hp (fun m3 h37 hag3 => ?_) 24 0 rfl rfl m2 (C10_ag hC1 hag2 (by decide)) hM (fun _ _ => rfl) (ag_r _ _)
  refine r_aload_n 54 rfl 0 dX10_holdOf_53 rfl rfl ?_
  refine r_getf (v := .ref 47) (k := 17) 57 rfl dX10_holdOf_54 (gf_X10_37_10 rfl) rfl rfl ?_
  refine r_aload_n 58 rfl 0 dX10_holdOf_57 rfl rfl ?_
  refine r_getf (v := .ref 42) (k := 11) 61 rfl dX10_holdOf_58 (gf_X10_22_10 rfl) rfl rfl ?_
  refine q_S 64 0 0 rfl [.ref 47, .ref 42] rfl dX10_holdOf_61 cl_X10_holdOf__X10_copy (lk_X10_186 rfl) st_X10_copy (Nat.le_of_ble_eq_true rfl) (fun _ _ => Nat.le_of_ble_eq_true rfl) rfl rfl (Nat.le_of_ble_eq_true rfl) (Nat.le_of_ble_eq_true rfl) ?_
  refine c_cp_47_42 (fun m4 r42 hag4 => (k_v ?_))
  refine r_aload_n 65 rfl 0 dX10_holdOf_64 rfl rfl ?_
  refine r_iload_n 66 rfl 3 dX10_holdOf_65 rfl rfl ?_
  refine w_putf 69 rfl (k := 5) (va_up m4 37 (upd (m4 37) 5 (m2 37 5))) dX10_holdOf_66 (pf_X10_92_10 rfl) (by decide) (by decide) rfl (Nat.le_of_ble_eq_true rfl) rfl ⟨rfl, rfl⟩ rfl ?_
  refine r_iload 71 rfl dX10_holdOf_69 rfl ?_
  refine r_ireturn rfl dX10_holdOf_71 (Nat.le_of_ble_eq_true rfl) (Nat.le_of_ble_eq_true rfl) ?_
  refine k _ (fun j hj => ?_) (fun x hx => ?_)
  · show m4 42 j = _; rw [r42 j hj, hag3 47 (by decide), hag2 47 (by decide), r47 j hj]
  · by_cases h7 : x = 37
    · subst h7
      rw [va_up_self, hag4 37 (by decide)]
      funext j
      unfold upd
      by_cases hj : j = 5
      · rw [if_pos hj, hj, hag2 37 (by decide), hag1 37 (by decide)]
      · rw [if_neg hj, h37 j hj, hag2 37 (by decide), hag1 37 (by decide)]
    · have hx' := hx
      simp only [List.mem_cons, List.not_mem_nil, or_false, not_or] at hx'
      obtain ⟨x2, x3, x4, x5, x6⟩ := hx'
      rw [va_up_ne _ _ h7, hag4 x (by simp [x2]), hag3 x (by simp [h7, x2, x3, x4, x5]), hag2 x (by simp [x3, x4, x5]), hag1 x (by simp [x6])]

set_option maxHeartbeats 4000000 in
set_option maxRecDepth 20000 in
theorem c9_hold_n {Q : am_P} {z : am_Z} {m : Nat → Nat → Int32} {n : Nat} {D : Nat → Nat → Nat} (hC : C9 z m D){x : Int32} (hx : D 7 0 = 0 ∨ x.toInt < 0 ∨ 8 ≤ x.toInt) {y : Int32} (k : Q (some (.int (-101))) (wd z m) n) : AW mX9_hold Q 0 (am_ent (am_l mX9_hold) [.ref 1, .int x, .int y]) [] (wd z m) n 0 0 := by
  show AW _ _ 0 [some (.ref 1), some (.int x), some (.int y)] [] _ _ 0 0
  obtain ⟨hg, hfd, hf3, hf0, hns, hn6, hsd, hsb, hwi, hw4, hfr, hr1, hhr, hh⟩ := id hC
  refine r_aload_n 1 rfl 0 dX9_hold_0 rfl rfl ?_
  refine r_iload_n 2 rfl 1 dX9_hold_1 rfl rfl ?_
  refine q_V 5 0 0 rfl [.int x] rfl dX9_hold_2 cl_X9_hold__X9_isCell (lk_X9_99 rfl) im_X9_isCell (ci := 9) rfl sl_X9__X9_isCell rfl (Nat.le_of_ble_eq_true rfl) (fun _ _ => Nat.le_of_ble_eq_true rfl) rfl rfl (Nat.le_of_ble_eq_true rfl) (Nat.le_of_ble_eq_true rfl) ?_
  refine c_isCell_f hfd hf3 hx (k_i ?_)
  refine r_if_ne 8 11 rfl dX9_hold_5 rfl (fun q__ => absurd (by decide) q__) (fun _ => ?_)
  refine r_bipush 10 rfl (-101) dX9_hold_8 (by decide) ?_
  refine r_ireturn rfl dX9_hold_10 (Nat.le_of_ble_eq_true rfl) (Nat.le_of_ble_eq_true rfl) ?_
  exact k

set_option maxHeartbeats 4000000 in
set_option maxRecDepth 20000 in
theorem c9_hold_o {Q : am_P} {z : am_Z} {m : Nat → Nat → Int32} {n : Nat} {D : Nat → Nat → Nat} (hC : C9 z m D){c : Nat} (hc : c < 8) (hf1 : 1 ≤ D 7 0){y : Int32} (hy : y.toInt < 0 ∨ 3 ≤ y.toInt) (k : Q (some (.int (-102))) (wd z m) n) : AW mX9_hold Q 0 (am_ent (am_l mX9_hold) [.ref 1, .int (nI c), .int y]) [] (wd z m) n 0 0 := by
  show AW _ _ 0 [some (.ref 1), some (.int (nI c)), some (.int y)] [] _ _ 0 0
  obtain ⟨hg, hfd, hf3, hf0, hns, hn6, hsd, hsb, hwi, hw4, hfr, hr1, hhr, hh⟩ := id hC
  refine r_aload_n 1 rfl 0 dX9_hold_0 rfl rfl ?_
  refine r_iload_n 2 rfl 1 dX9_hold_1 rfl rfl ?_
  refine q_V 5 0 0 rfl [.int (nI c)] rfl dX9_hold_2 cl_X9_hold__X9_isCell (lk_X9_99 rfl) im_X9_isCell (ci := 9) rfl sl_X9__X9_isCell rfl (Nat.le_of_ble_eq_true rfl) (fun _ _ => Nat.le_of_ble_eq_true rfl) rfl rfl (Nat.le_of_ble_eq_true rfl) (Nat.le_of_ble_eq_true rfl) ?_
  refine c_isCell_t hc hfd hf1 hf3 (k_i ?_)
  refine r_if_ne 8 11 rfl dX9_hold_5 rfl (fun _ => ?_) (fun q__ => absurd q__ (by decide))
  refine r_iload_n 12 rfl 2 dX9_hold_11 rfl rfl ?_
  refine q_S 15 0 0 rfl [.int y] rfl dX9_hold_12 cl_X9_hold__X9_isParish (lk_X9_113 rfl) st_X9_isParish (Nat.le_of_ble_eq_true rfl) (fun _ _ => Nat.le_of_ble_eq_true rfl) rfl rfl (Nat.le_of_ble_eq_true rfl) (Nat.le_of_ble_eq_true rfl) ?_
  refine c_isPar_f hy (k_i ?_)
  refine r_if_ne 18 21 rfl dX9_hold_15 rfl (fun q__ => absurd (by decide) q__) (fun _ => ?_)
  refine r_bipush 20 rfl (-102) dX9_hold_18 (by decide) ?_
  refine r_ireturn rfl dX9_hold_20 (Nat.le_of_ble_eq_true rfl) (Nat.le_of_ble_eq_true rfl) ?_
  exact k

set_option maxHeartbeats 4000000 in
set_option maxRecDepth 20000 in
theorem c9_hold_t {Q : am_P} {z : am_Z} {m : Nat → Nat → Int32} {n : Nat} {D : Nat → Nat → Nat} (hC : C9 z m D){c p : Nat} (hc : c < 8) (hf1 : 1 ≤ D 7 0) (hp : p < 3) (hbl : BL m 7) (hB : BD D 100) (k : ∀ m', ag [21, 22, 23, 24, 25, 26, 27, 29, 30, 31, 32, 34, 35] m m' → Q (some (.int (nI (rv D c p)))) (wd z m') n) : AW mX9_hold Q 0 (am_ent (am_l mX9_hold) [.ref 1, .int (nI c), .int (nI p)]) [] (wd z m) n 0 0 := by
  show AW _ _ 0 [some (.ref 1), some (.int (nI c)), some (.int (nI p))] [] _ _ 0 0
  obtain ⟨hg, hfd, hf3, hf0, hns, hn6, hsd, hsb, hwi, hw4, hfr, hr1, hhr, hh⟩ := id hC
  refine r_aload_n 1 rfl 0 dX9_hold_0 rfl rfl ?_
  refine r_iload_n 2 rfl 1 dX9_hold_1 rfl rfl ?_
  refine q_V 5 0 0 rfl [.int (nI c)] rfl dX9_hold_2 cl_X9_hold__X9_isCell (lk_X9_99 rfl) im_X9_isCell (ci := 9) rfl sl_X9__X9_isCell rfl (Nat.le_of_ble_eq_true rfl) (fun _ _ => Nat.le_of_ble_eq_true rfl) rfl rfl (Nat.le_of_ble_eq_true rfl) (Nat.le_of_ble_eq_true rfl) ?_
  refine c_isCell_t hc hfd hf1 hf3 (k_i ?_)
  refine r_if_ne 8 11 rfl dX9_hold_5 rfl (fun _ => ?_) (fun q__ => absurd q__ (by decide))
  refine r_iload_n 12 rfl 2 dX9_hold_11 rfl rfl ?_
  refine q_S 15 0 0 rfl [.int (nI p)] rfl dX9_hold_12 cl_X9_hold__X9_isParish (lk_X9_113 rfl) st_X9_isParish (Nat.le_of_ble_eq_true rfl) (fun _ _ => Nat.le_of_ble_eq_true rfl) rfl rfl (Nat.le_of_ble_eq_true rfl) (Nat.le_of_ble_eq_true rfl) ?_
  refine c_isPar_t hp (k_i ?_)
  refine r_if_ne 18 21 rfl dX9_hold_15 rfl (fun _ => ?_) (fun q__ => absurd q__ (by decide))
  refine r_aload_n 22 rfl 0 dX9_hold_21 rfl rfl ?_
  refine q_V 25 0 0 rfl [] rfl dX9_hold_22 cl_X9_hold__X9_watchHolders (lk_X9_213 rfl) im_X9_watchHolders (ci := 9) rfl sl_X9__X9_watchHolders rfl (Nat.le_of_ble_eq_true rfl) (fun _ _ => Nat.le_of_ble_eq_true rfl) rfl rfl (Nat.le_of_ble_eq_true rfl) (Nat.le_of_ble_eq_true rfl) ?_
  refine c_watch hC hbl hB (fun m' h34 hag => (k_v ?_))
  refine r_aload_n 26 rfl 0 dX9_hold_25 rfl rfl ?_
  refine r_iload_n 27 rfl 1 dX9_hold_26 rfl rfl ?_
  refine r_iload_n 28 rfl 2 dX9_hold_27 rfl rfl ?_
  refine q_V 31 0 0 rfl [.int (nI c), .int (nI p)] rfl dX9_hold_28 cl_X9_hold__X9_heldBy (lk_X9_216 rfl) im_X9_heldBy (ci := 9) rfl sl_X9__X9_heldBy rfl (Nat.le_of_ble_eq_true rfl) (fun _ _ => Nat.le_of_ble_eq_true rfl) rfl rfl (Nat.le_of_ble_eq_true rfl) (Nat.le_of_ble_eq_true rfl) ?_
  refine c_heldBy h34 hc hp (k_i ?_)
  refine r_ireturn rfl dX9_hold_31 (Nat.le_of_ble_eq_true rfl) (Nat.le_of_ble_eq_true rfl) ?_
  exact k m' hag

set_option maxHeartbeats 4000000 in
set_option maxRecDepth 20000 in
theorem c10_hold_n {Q : am_P} {z : am_Z} {m : Nat → Nat → Int32} {n : Nat} {D : Nat → Nat → Nat} (hC : C10 m D){x : Int32} (hx : D 7 0 = 0 ∨ x.toInt < 0 ∨ 8 ≤ x.toInt) {y : Int32} (k : Q (some (.int (-101))) (wd z m) n) : AW mX10_hold Q 0 (am_ent (am_l mX10_hold) [.ref 37, .int x, .int y]) [] (wd z m) n 0 0 := by
  show AW _ _ 0 [some (.ref 37), some (.int x), some (.int y)] [] _ _ 0 0
  obtain ⟨hg, hfd, hf3, hf0, hns, hn7, hmr, hwi, hw4, hfr, hr1, hhr, hh⟩ := id hC
  refine r_aload_n 1 rfl 0 dX10_hold_0 rfl rfl ?_
  refine r_iload_n 2 rfl 1 dX10_hold_1 rfl rfl ?_
  refine q_V 5 0 0 rfl [.int x] rfl dX10_hold_2 cl_X10_hold__X10_isCell (lk_X10_119 rfl) im_X10_isCell (ci := 10) rfl sl_X10__X10_isCell rfl (Nat.le_of_ble_eq_true rfl) (fun _ _ => Nat.le_of_ble_eq_true rfl) rfl rfl (Nat.le_of_ble_eq_true rfl) (Nat.le_of_ble_eq_true rfl) ?_
  refine c10_isCell_f hfd hf3 hx (k_i ?_)
  refine r_if_ne 8 11 rfl dX10_hold_5 rfl (fun q__ => absurd (by decide) q__) (fun _ => ?_)
  refine r_bipush 10 rfl (-101) dX10_hold_8 (by decide) ?_
  refine r_ireturn rfl dX10_hold_10 (Nat.le_of_ble_eq_true rfl) (Nat.le_of_ble_eq_true rfl) ?_
  exact k

set_option maxHeartbeats 4000000 in
set_option maxRecDepth 20000 in
theorem c10_hold_o {Q : am_P} {z : am_Z} {m : Nat → Nat → Int32} {n : Nat} {D : Nat → Nat → Nat} (hC : C10 m D){c : Nat} (hc : c < 8) (hf1 : 1 ≤ D 7 0){y : Int32} (hy : y.toInt < 0 ∨ 3 ≤ y.toInt) (k : Q (some (.int (-102))) (wd z m) n) : AW mX10_hold Q 0 (am_ent (am_l mX10_hold) [.ref 37, .int (nI c), .int y]) [] (wd z m) n 0 0 := by
  show AW _ _ 0 [some (.ref 37), some (.int (nI c)), some (.int y)] [] _ _ 0 0
  obtain ⟨hg, hfd, hf3, hf0, hns, hn7, hmr, hwi, hw4, hfr, hr1, hhr, hh⟩ := id hC
  refine r_aload_n 1 rfl 0 dX10_hold_0 rfl rfl ?_
  refine r_iload_n 2 rfl 1 dX10_hold_1 rfl rfl ?_
  refine q_V 5 0 0 rfl [.int (nI c)] rfl dX10_hold_2 cl_X10_hold__X10_isCell (lk_X10_119 rfl) im_X10_isCell (ci := 10) rfl sl_X10__X10_isCell rfl (Nat.le_of_ble_eq_true rfl) (fun _ _ => Nat.le_of_ble_eq_true rfl) rfl rfl (Nat.le_of_ble_eq_true rfl) (Nat.le_of_ble_eq_true rfl) ?_
  refine c10_isCell_t hc hfd hf1 hf3 (k_i ?_)
  refine r_if_ne 8 11 rfl dX10_hold_5 rfl (fun _ => ?_) (fun q__ => absurd q__ (by decide))
  refine r_iload_n 12 rfl 2 dX10_hold_11 rfl rfl ?_
  refine r_i2l 13 rfl dX10_hold_12 ?_
  refine r_lconst 14 rfl 0 dX10_hold_13 rfl ?_
  refine r_ldc2 17 rfl 2 dX10_hold_14 (cn_X10_115 rfl) ?_
  refine q_S 20 0 0 rfl [.long y.toInt64, .long 0, .long 2] rfl dX10_hold_17 cl_X10_hold__X10_in (lk_X10_64 rfl) st_X10_in (Nat.le_of_ble_eq_true rfl) (fun _ _ => Nat.le_of_ble_eq_true rfl) rfl rfl (Nat.le_of_ble_eq_true rfl) (Nat.le_of_ble_eq_true rfl) ?_
  refine c_in_f (show y.toInt64.toInt < (0 : Int) ∨ (2 : Int) < y.toInt64.toInt by rw [Int32.toInt_toInt64]; omega) (k_i ?_)
  refine r_if_eq 23 32 rfl dX10_hold_20 rfl (fun _ => ?_) (fun q__ => absurd (by decide) q__)
  refine r_bipush 34 rfl (-102) dX10_hold_32 (by decide) ?_
  refine r_ireturn rfl dX10_hold_34 (Nat.le_of_ble_eq_true rfl) (Nat.le_of_ble_eq_true rfl) ?_
  exact k

set_option maxHeartbeats 4000000 in
set_option maxRecDepth 20000 in
theorem c10_hold_t {Q : am_P} {z : am_Z} {m : Nat → Nat → Int32} {n : Nat} {D : Nat → Nat → Nat} (hC : C10 m D){c p : Nat} (hc : c < 8) (hf1 : 1 ≤ D 7 0) (hp : p < 3) (hB : BD D 100) (k : ∀ m', (∀ j, j < 42 → m' 42 j = m 42 j) → ag [42, 43, 44, 45, 47] m m' → Q (some (.int (nI (rv D c p)))) (wd z m') n) : AW mX10_hold Q 0 (am_ent (am_l mX10_hold) [.ref 37, .int (nI c), .int (nI p)]) [] (wd z m) n 0 0 := by
  show AW _ _ 0 [some (.ref 37), some (.int (nI c)), some (.int (nI p))] [] _ _ 0 0
  obtain ⟨hg, hfd, hf3, hf0, hns, hn7, hmr, hwi, hw4, hfr, hr1, hhr, hh⟩ := id hC
  refine r_aload_n 1 rfl 0 dX10_hold_0 rfl rfl ?_
  refine r_iload_n 2 rfl 1 dX10_hold_1 rfl rfl ?_
  refine q_V 5 0 0 rfl [.int (nI c)] rfl dX10_hold_2 cl_X10_hold__X10_isCell (lk_X10_119 rfl) im_X10_isCell (ci := 10) rfl sl_X10__X10_isCell rfl (Nat.le_of_ble_eq_true rfl) (fun _ _ => Nat.le_of_ble_eq_true rfl) rfl rfl (Nat.le_of_ble_eq_true rfl) (Nat.le_of_ble_eq_true rfl) ?_
  refine c10_isCell_t hc hfd hf1 hf3 (k_i ?_)
  refine r_if_ne 8 11 rfl dX10_hold_5 rfl (fun _ => ?_) (fun q__ => absurd q__ (by decide))
  refine r_iload_n 12 rfl 2 dX10_hold_11 rfl rfl ?_
  refine r_i2l 13 rfl dX10_hold_12 ?_
  refine r_lconst 14 rfl 0 dX10_hold_13 rfl ?_
  refine r_ldc2 17 rfl 2 dX10_hold_14 (cn_X10_115 rfl) ?_
  refine q_S 20 0 0 rfl [.long ((nI p).toInt64), .long 0, .long 2] rfl dX10_hold_17 cl_X10_hold__X10_in (lk_X10_64 rfl) st_X10_in (Nat.le_of_ble_eq_true rfl) (fun _ _ => Nat.le_of_ble_eq_true rfl) rfl rfl (Nat.le_of_ble_eq_true rfl) (Nat.le_of_ble_eq_true rfl) ?_
  refine c_in_t (show (0 : Int) ≤ (nI p).toInt64.toInt by rw [Int32.toInt_toInt64, nI_toInt (by omega)]; omega) (show (nI p).toInt64.toInt ≤ (2 : Int) by rw [Int32.toInt_toInt64, nI_toInt (by omega)]; omega) (k_i ?_)
  refine r_if_eq 23 32 rfl dX10_hold_20 rfl (fun q__ => absurd q__ (by decide)) (fun _ => ?_)
  refine r_aload_n 24 rfl 0 dX10_hold_23 rfl rfl ?_
  refine r_iload_n 25 rfl 1 dX10_hold_24 rfl rfl ?_
  refine r_iload_n 26 rfl 2 dX10_hold_25 rfl rfl ?_
  refine q_V 29 0 0 rfl [.int (nI c), .int (nI p)] rfl dX10_hold_26 cl_X10_hold__X10_holdOf (lk_X10_196 rfl) im_X10_holdOf (ci := 10) rfl sl_X10__X10_holdOf rfl (Nat.le_of_ble_eq_true rfl) (fun _ _ => Nat.le_of_ble_eq_true rfl) rfl rfl (Nat.le_of_ble_eq_true rfl) (Nat.le_of_ble_eq_true rfl) ?_
  refine c_holdOf hC hB hc hp (fun m' h42 hag => (k_i ?_))
  refine r_goto 34 dX10_hold_29 rfl ?_
  refine r_ireturn rfl dX10_hold_34 (Nat.le_of_ble_eq_true rfl) (Nat.le_of_ble_eq_true rfl) ?_
  exact k m' h42 hag

set_option maxHeartbeats 4000000 in
set_option maxRecDepth 20000 in
theorem P_hold {i : Nat} {z : am_Z} {m : Nat → Nat → Int32} {n : Nat} {D K : Nat → Nat → Nat} (hI : IV i z m n D K) (hi : i + 5 ≤ 2560) (x : Int32) (y : Int32) : AW mX9_hold (PR (i + 5) mX10_hold [.ref 37, .int x, .int y]) 0 (am_ent (am_l mX9_hold) [.ref 1, .int x, .int y]) [] (wd z m) n 0 0 := by
  obtain ⟨h9, h10, hnz, hpg, hop, hnw, hct, him⟩ := id hI
  obtain ⟨hg, hfd, hf3, hf0, hns, hn6, hsd, hsb, hwi, hw4, hfr, hr1, hhr, hh⟩ := id h9
  by_cases hx : D 7 0 = 0 ∨ x.toInt < 0 ∨ 8 ≤ x.toInt
  · exact c9_hold_n h9 hx (PR_i (fun Q2 k => c10_hold_n h10 hx (k _ _ _ _ _ (IV_mono hI (by omega) hi))))
  · have hf1 : 1 ≤ D 7 0 := by omega
    obtain ⟨c, hc, rfl⟩ := (i_cases x 8 (by decide)).resolve_left (by omega)
    have hB := BD_le (CT_BD hct h9) (show 100 ≤ 1000 by decide)
    rcases i_cases y 3 (by decide) with hy | ⟨p, hp, rfl⟩
    · exact c9_hold_o h9 hc hf1 hy (PR_i (fun Q2 k => c10_hold_o h10 hc hf1 hy (k _ _ _ _ _ (IV_mono hI (by omega) hi))))
    · refine c9_hold_t h9 hc hf1 hp hnw.2.2.2 hB (fun m1 hag => PR_i (fun Q2 k => ?_))
      have hI1 := IV_ag hI (ag_w hag (by decide))
      exact c10_hold_t hI1.2.1 hc hf1 hp hB (fun m2 h42 hag2 => k _ _ _ _ _ (IV_mono (IV_ag2 hI1 (ag_w hag2 (by decide)) (fun j _ => by rw [hag2 37 (by decide)]) (fun j hj => h42 j (by omega))) (by omega) hi))

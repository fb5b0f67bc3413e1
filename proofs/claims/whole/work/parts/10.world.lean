/-! the law's world: place k <= 53 holds what m k says; z: the script, the row of sources, the cells beyond, the model's hash -/
abbrev am_Z : Type := (Nat × (Nat → Int32)) × (Nat → Option Nat) × (Nat → am_E) × Int64
def wc (k : Nat) (f : Nat → Int32) (z : am_Z) : am_E := match k with
  | 1 => .inr (.inr (9, [.ref 2, .ref 4, .ref 6, .ref 7, .ref 14, .ref 21, .ref 28, .ref 33, .ref 34, .ref 35, .ref 36, .int (f 11), .int (f 12), .int (f 13), .int (f 14)]))
  | 2 => .inr (.inr (3, [.ref 3, .int (f 1)]))
  | 3 => .inl (0, 14, f)
  | 4 => .inr (.inr (7, [.ref 5, .int (f 1), .int (f 2)]))
  | 5 => .inl (0, 8, f)
  | 6 => .inr (.inl (6, z.2.1))
  | 7 => .inr (.inr (5, [.int (f 0), .ref 8, .ref 9, .int (f 3), .int (f 4), .int (f 5), .ref 10, .ref 11, .int (f 8), .ref 12, .ref 13]))
  | 8 => .inl (1, 6, f)
  | 9 => .inl (0, 6, f)
  | 10 => .inl (0, 8, f)
  | 11 => .inl (0, 3, f)
  | 12 => .inl (0, 8, f)
  | 13 => .inl (0, 8, f)
  | 14 => .inr (.inr (5, [.int (f 0), .ref 15, .ref 16, .int (f 3), .int (f 4), .int (f 5), .ref 17, .ref 18, .int (f 8), .ref 19, .ref 20]))
  | 15 => .inl (1, 6, f)
  | 16 => .inl (0, 6, f)
  | 17 => .inl (0, 8, f)
  | 18 => .inl (0, 3, f)
  | 19 => .inl (0, 8, f)
  | 20 => .inl (0, 8, f)
  | 21 => .inr (.inr (5, [.int (f 0), .ref 22, .ref 23, .int (f 3), .int (f 4), .int (f 5), .ref 24, .ref 25, .int (f 8), .ref 26, .ref 27]))
  | 22 => .inl (1, 6, f)
  | 23 => .inl (0, 6, f)
  | 24 => .inl (0, 8, f)
  | 25 => .inl (0, 3, f)
  | 26 => .inl (0, 8, f)
  | 27 => .inl (0, 8, f)
  | 28 => .inr (.inr (0, [.ref 29, .ref 30, .ref 31, .ref 32]))
  | 29 => .inl (0, 8, f)
  | 30 => .inl (0, 8, f)
  | 31 => .inl (0, 8, f)
  | 32 => .inl (0, 8, f)
  | 33 => .inl (0, 8, f)
  | 34 => .inl (0, 8, f)
  | 35 => .inl (0, 8, f)
  | 36 => .inl (0, 32, f)
  | 37 => .inr (.inr (10, [.ref 38, .int (f 1), .int (f 2), .int (f 3), .int (f 4), .int (f 5), .int (f 6), .ref 39, .ref 40, .ref 41, .int (f 10), .ref 42, .ref 43, .ref 44, .ref 45, .int (f 15), .ref 46, .ref 47, .int (f 18), .int (f 19), .ref 48, .ref 49, .int (f 22), .int (f 23), .int (f 24), .int (f 25), .int (f 26), .int (f 27), .int (f 28), .ref 50, .ref 51, .ref 52, .ref 53, .long z.2.2.2]))
  | 38 => .inl (0, 14, f)
  | 39 => .inl (0, 8, f)
  | 40 => .inl (0, 8, f)
  | 41 => .inl (0, 3, f)
  | 42 => .inl (0, 42, f)
  | 43 => .inl (0, 8, f)
  | 44 => .inl (0, 8, f)
  | 45 => .inl (0, 8, f)
  | 46 => .inl (0, 8, f)
  | 47 => .inl (0, 42, f)
  | 48 => .inl (0, 16, f)
  | 49 => .inl (0, 32, f)
  | 50 => .inl (0, 42, f)
  | 51 => .inl (0, 8, f)
  | 52 => .inl (0, 3, f)
  | 53 => .inl (0, 16, f)
  | _ => .inl (0, 0, f)
def wd (z : am_Z) (m : Nat → Nat → Int32) : Nat → am_E := fun k => if k = 0 then .inl (0, z.1.1, z.1.2) else if k ≤ 53 then wc k (m k) z else z.2.2.1 k
theorem wd_up {z : am_Z} {m : Nat → Nat → Int32} {a : Nat} {f : Nat → Int32} {e : am_E} (h0 : 0 < a) (h1 : a ≤ 53) (he : wc a f z = e) : va_up (wd z m) a e = wd z (va_up m a f) := by
  subst he
  funext k
  by_cases hk : k = a
  · subst hk
    rw [va_up_self]
    unfold wd
    rw [if_neg (by omega), if_pos h1, va_up_self]
  · rw [va_up_ne _ _ hk]
    unfold wd
    rw [va_up_ne _ _ hk]
section AMZ
variable {M : am_M} {Q : am_P} {pc : Nat} {lv : List (Option Value)} {st : List Value} {z : am_Z} {m : Nat → Nat → Int32} {n cu su : Nat}
theorem w_iast (pc' : Nat) (hp : pc + 1 = pc') {a N : Nat} {i x : Int32} (j : Nat) (m' : Nat → Nat → Int32) (hd : decode (am_c M) pc = .ok (.iastore, 1)) (h0 : 0 < a) (h1 : a ≤ 53) (he : ∀ f, wc a f z = .inl (0, N, f)) (hi : i = nI j) (hj : j < N) (hN : N < 2 ^ 31) (hm : va_up m a (upd (m a) j x) = m') (kk : AW M Q pc' lv st (wd z m') n cu su) : AW M Q pc lv (.int x :: .int i :: .ref a :: st) (wd z m) n cu su := by
  subst hm
  refine r_iast pc' hp (f := m a) j hd h0 ?_ hi hj hN ?_
  · unfold wd
    rw [if_neg (by omega), if_pos h1]
    exact he _
  · rw [wd_up h0 h1 (he _)]
    exact kk
theorem w_zast (pc' : Nat) (hp : pc + 1 = pc') {a N : Nat} {i x : Int32} (j : Nat) (m' : Nat → Nat → Int32) (hd : decode (am_c M) pc = .ok (.bastore, 1)) (h0 : 0 < a) (h1 : a ≤ 53) (he : ∀ f, wc a f z = .inl (1, N, f)) (hi : i = nI j) (hj : j < N) (hN : N < 2 ^ 31) (hx : narrow .boolean (.int x) = .int x) (hm : va_up m a (upd (m a) j x) = m') (kk : AW M Q pc' lv st (wd z m') n cu su) : AW M Q pc lv (.int x :: .int i :: .ref a :: st) (wd z m) n cu su := by
  subst hm
  refine r_zast pc' hp (f := m a) j hd h0 ?_ hi hj hN hx ?_
  · unfold wd
    rw [if_neg (by omega), if_pos h1]
    exact he _
  · rw [wd_up h0 h1 (he _)]
    exact kk
theorem w_putf (pc' : Nat) (hp : pc + 3 = pc') {idx ci k a : Nat} {ty : FieldType} {x : Int32} {fs : List Value} (m' : Nat → Nat → Int32) (hd : decode (am_c M) pc = .ok (.putfield idx, 3)) (hg : am_pf M idx ci k ty) (h0 : 0 < a) (h1 : a ≤ 53) (he : wc a (m a) z = .inr (.inr (ci, fs))) (hl : k < fs.length) (hf : wc a (upd (m a) k x) z = .inr (.inr (ci, fs.set k (.int x)))) (hv : narrow ty (.int x) = .int x ∧ fits ty (.int x) = true) (hm : va_up m a (upd (m a) k x) = m')
    (kk : AW M Q pc' lv st (wd z m') n cu su) : AW M Q pc lv (.int x :: .ref a :: st) (wd z m) n cu su := by
  subst hm
  refine r_putf pc' hp (fs := fs) (fs.set k (.int x)) hd hg ?_ hl rfl (fun _ _ => hv) ?_
  · unfold wd
    rw [if_neg (by omega), if_pos h1]
    exact he
  · rw [wd_up h0 h1 hf]
    exact kk
end AMZ

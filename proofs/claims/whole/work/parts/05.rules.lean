/-! rules that leave the heap alone -/
section AMR
variable {M : am_M} {Q : am_P} {pc : Nat} {lv : List (Option Value)} {st : List Value} {h : Nat → am_E} {n cu su : Nat}

theorem r_iadd (pc' : Nat) (hp : pc + 1 = pc') {x y : Int32} (hd : decode (am_c M) pc = .ok (.iadd, 1))  (k : AW M Q pc' lv (.int (x + y) :: st) h n cu su) : AW M Q pc lv (.int y :: .int x :: st) h n cu su := by
  subst hp
  intro l b base L xs D cA p e s m args below meth c H locs ls hC h0 hH hS hL
  exact lv_iadd hC.1 hC.2.1 hd (k l b base L xs D cA p e s m args below meth c H locs ls hC h0 hH hS hL)

theorem r_isub (pc' : Nat) (hp : pc + 1 = pc') {x y : Int32} (hd : decode (am_c M) pc = .ok (.isub, 1))  (k : AW M Q pc' lv (.int (x - y) :: st) h n cu su) : AW M Q pc lv (.int y :: .int x :: st) h n cu su := by
  subst hp
  intro l b base L xs D cA p e s m args below meth c H locs ls hC h0 hH hS hL
  exact lv_isub hC.1 hC.2.1 hd (k l b base L xs D cA p e s m args below meth c H locs ls hC h0 hH hS hL)

theorem r_imul (pc' : Nat) (hp : pc + 1 = pc') {x y : Int32} (hd : decode (am_c M) pc = .ok (.imul, 1))  (k : AW M Q pc' lv (.int (x * y) :: st) h n cu su) : AW M Q pc lv (.int y :: .int x :: st) h n cu su := by
  subst hp
  intro l b base L xs D cA p e s m args below meth c H locs ls hC h0 hH hS hL
  exact lv_imul hC.1 hC.2.1 hd (k l b base L xs D cA p e s m args below meth c H locs ls hC h0 hH hS hL)

theorem r_iand (pc' : Nat) (hp : pc + 1 = pc') {x y : Int32} (hd : decode (am_c M) pc = .ok (.iand, 1))  (k : AW M Q pc' lv (.int (x &&& y) :: st) h n cu su) : AW M Q pc lv (.int y :: .int x :: st) h n cu su := by
  subst hp
  intro l b base L xs D cA p e s m args below meth c H locs ls hC h0 hH hS hL
  exact lv_iand hC.1 hC.2.1 hd (k l b base L xs D cA p e s m args below meth c H locs ls hC h0 hH hS hL)

theorem r_ior (pc' : Nat) (hp : pc + 1 = pc') {x y : Int32} (hd : decode (am_c M) pc = .ok (.ior, 1))  (k : AW M Q pc' lv (.int (x ||| y) :: st) h n cu su) : AW M Q pc lv (.int y :: .int x :: st) h n cu su := by
  subst hp
  intro l b base L xs D cA p e s m args below meth c H locs ls hC h0 hH hS hL
  exact lv_ior hC.1 hC.2.1 hd (k l b base L xs D cA p e s m args below meth c H locs ls hC h0 hH hS hL)

theorem r_ixor (pc' : Nat) (hp : pc + 1 = pc') {x y : Int32} (hd : decode (am_c M) pc = .ok (.ixor, 1))  (k : AW M Q pc' lv (.int (x ^^^ y) :: st) h n cu su) : AW M Q pc lv (.int y :: .int x :: st) h n cu su := by
  subst hp
  intro l b base L xs D cA p e s m args below meth c H locs ls hC h0 hH hS hL
  exact lv_ixor hC.1 hC.2.1 hd (k l b base L xs D cA p e s m args below meth c H locs ls hC h0 hH hS hL)

theorem r_ishl (pc' : Nat) (hp : pc + 1 = pc') {x y : Int32} (hd : decode (am_c M) pc = .ok (.ishl, 1))  (k : AW M Q pc' lv (.int (x <<< (y &&& 31)) :: st) h n cu su) : AW M Q pc lv (.int y :: .int x :: st) h n cu su := by
  subst hp
  intro l b base L xs D cA p e s m args below meth c H locs ls hC h0 hH hS hL
  exact lv_ishl hC.1 hC.2.1 hd (k l b base L xs D cA p e s m args below meth c H locs ls hC h0 hH hS hL)

theorem r_ishr (pc' : Nat) (hp : pc + 1 = pc') {x y : Int32} (hd : decode (am_c M) pc = .ok (.ishr, 1))  (k : AW M Q pc' lv (.int (x >>> (y &&& 31)) :: st) h n cu su) : AW M Q pc lv (.int y :: .int x :: st) h n cu su := by
  subst hp
  intro l b base L xs D cA p e s m args below meth c H locs ls hC h0 hH hS hL
  exact lv_ishr hC.1 hC.2.1 hd (k l b base L xs D cA p e s m args below meth c H locs ls hC h0 hH hS hL)

theorem r_iushr (pc' : Nat) (hp : pc + 1 = pc') {x y : Int32} (hd : decode (am_c M) pc = .ok (.iushr, 1))  (k : AW M Q pc' lv (.int ((x.toUInt32 >>> (y.toUInt32 &&& Int32.toUInt32 31)).toInt32) :: st) h n cu su) : AW M Q pc lv (.int y :: .int x :: st) h n cu su := by
  subst hp
  intro l b base L xs D cA p e s m args below meth c H locs ls hC h0 hH hS hL
  exact lv_iushr hC.1 hC.2.1 hd rfl (k l b base L xs D cA p e s m args below meth c H locs ls hC h0 hH hS hL)

theorem r_idiv (pc' : Nat) (hp : pc + 1 = pc') {x y : Int32} (hd : decode (am_c M) pc = .ok (.idiv, 1)) (hne : ¬ y = 0) (k : AW M Q pc' lv (.int (x / y) :: st) h n cu su) : AW M Q pc lv (.int y :: .int x :: st) h n cu su := by
  subst hp
  intro l b base L xs D cA p e s m args below meth c H locs ls hC h0 hH hS hL
  exact lv_idiv hC.1 hC.2.1 hd hne (k l b base L xs D cA p e s m args below meth c H locs ls hC h0 hH hS hL)

theorem r_irem (pc' : Nat) (hp : pc + 1 = pc') {x y : Int32} (hd : decode (am_c M) pc = .ok (.irem, 1)) (hne : ¬ y = 0) (k : AW M Q pc' lv (.int (x - x / y * y) :: st) h n cu su) : AW M Q pc lv (.int y :: .int x :: st) h n cu su := by
  subst hp
  intro l b base L xs D cA p e s m args below meth c H locs ls hC h0 hH hS hL
  exact lv_irem hC.1 hC.2.1 hd hne (k l b base L xs D cA p e s m args below meth c H locs ls hC h0 hH hS hL)

theorem r_ladd (pc' : Nat) (hp : pc + 1 = pc') {x y : Int64} (hd : decode (am_c M) pc = .ok (.ladd, 1))  (k : AW M Q pc' lv (.long (x + y) :: st) h n cu su) : AW M Q pc lv (.long y :: .long x :: st) h n cu su := by
  subst hp
  intro l b base L xs D cA p e s m args below meth c H locs ls hC h0 hH hS hL
  exact lv_ladd hC.1 hC.2.1 hd (k l b base L xs D cA p e s m args below meth c H locs ls hC h0 hH hS hL)

theorem r_lmul (pc' : Nat) (hp : pc + 1 = pc') {x y : Int64} (hd : decode (am_c M) pc = .ok (.lmul, 1))  (k : AW M Q pc' lv (.long (x * y) :: st) h n cu su) : AW M Q pc lv (.long y :: .long x :: st) h n cu su := by
  subst hp
  intro l b base L xs D cA p e s m args below meth c H locs ls hC h0 hH hS hL
  exact lv_lmul hC.1 hC.2.1 hd (k l b base L xs D cA p e s m args below meth c H locs ls hC h0 hH hS hL)

theorem r_land (pc' : Nat) (hp : pc + 1 = pc') {x y : Int64} (hd : decode (am_c M) pc = .ok (.land, 1))  (k : AW M Q pc' lv (.long (x &&& y) :: st) h n cu su) : AW M Q pc lv (.long y :: .long x :: st) h n cu su := by
  subst hp
  intro l b base L xs D cA p e s m args below meth c H locs ls hC h0 hH hS hL
  exact lv_land hC.1 hC.2.1 hd (k l b base L xs D cA p e s m args below meth c H locs ls hC h0 hH hS hL)

theorem r_lrem (pc' : Nat) (hp : pc + 1 = pc') {x y : Int64} (hd : decode (am_c M) pc = .ok (.lrem, 1)) (hne : ¬ y = 0) (k : AW M Q pc' lv (.long (x - x / y * y) :: st) h n cu su) : AW M Q pc lv (.long y :: .long x :: st) h n cu su := by
  subst hp
  intro l b base L xs D cA p e s m args below meth c H locs ls hC h0 hH hS hL
  exact lv_lrem hC.1 hC.2.1 hd hne (k l b base L xs D cA p e s m args below meth c H locs ls hC h0 hH hS hL)

theorem r_lcmp (pc' : Nat) (hp : pc + 1 = pc') {x y : Int64} (hd : decode (am_c M) pc = .ok (.lcmp, 1))  (k : AW M Q pc' lv (.int (lg_cmp x y) :: st) h n cu su) : AW M Q pc lv (.long y :: .long x :: st) h n cu su := by
  subst hp
  intro l b base L xs D cA p e s m args below meth c H locs ls hC h0 hH hS hL
  exact W.lcmp hC.1 hC.2.1 hd (k l b base L xs D cA p e s m args below meth c H locs ls hC h0 hH hS hL)

theorem r_i2l (pc' : Nat) (hp : pc + 1 = pc') {x : Int32} (hd : decode (am_c M) pc = .ok (.i2l, 1))  (k : AW M Q pc' lv (.long x.toInt64 :: st) h n cu su) : AW M Q pc lv (.int x :: st) h n cu su := by
  subst hp
  intro l b base L xs D cA p e s m args below meth c H locs ls hC h0 hH hS hL
  exact lv_i2l hC.1 hC.2.1 hd rfl (k l b base L xs D cA p e s m args below meth c H locs ls hC h0 hH hS hL)

theorem r_l2i (pc' : Nat) (hp : pc + 1 = pc') {x : Int64} (hd : decode (am_c M) pc = .ok (.l2i, 1))  (k : AW M Q pc' lv (.int x.toInt32 :: st) h n cu su) : AW M Q pc lv (.long x :: st) h n cu su := by
  subst hp
  intro l b base L xs D cA p e s m args below meth c H locs ls hC h0 hH hS hL
  exact lv_l2i hC.1 hC.2.1 hd rfl (k l b base L xs D cA p e s m args below meth c H locs ls hC h0 hH hS hL)

theorem r_aconst_null (pc' : Nat) (hp : pc + 1 = pc')  (hd : decode (am_c M) pc = .ok (.aconst_null, 1))  (k : AW M Q pc' lv (.null :: st) h n cu su) : AW M Q pc lv (st) h n cu su := by
  subst hp
  intro l b base L xs D cA p e s m args below meth c H locs ls hC h0 hH hS hL
  exact lv_null hC.1 hC.2.1 hd (k l b base L xs D cA p e s m args below meth c H locs ls hC h0 hH hS hL)

theorem r_dup (pc' : Nat) (hp : pc + 1 = pc') {v : Value} (hd : decode (am_c M) pc = .ok (.dup, 1)) (hv : v.category = 1) (k : AW M Q pc' lv (v :: v :: st) h n cu su) : AW M Q pc lv (v :: st) h n cu su := by
  subst hp
  intro l b base L xs D cA p e s m args below meth c H locs ls hC h0 hH hS hL
  exact lv_dup hC.1 hC.2.1 hd ((am_v_cat b base v).trans hv) (k l b base L xs D cA p e s m args below meth c H locs ls hC h0 hH hS hL)

theorem r_dup_x1 (pc' : Nat) (hp : pc + 1 = pc') {v w : Value} (hd : decode (am_c M) pc = .ok (.dup_x1, 1)) (hv : v.category = 1) (hw : w.category = 1) (k : AW M Q pc' lv (v :: w :: v :: st) h n cu su) : AW M Q pc lv (v :: w :: st) h n cu su := by
  subst hp
  intro l b base L xs D cA p e s m args below meth c H locs ls hC h0 hH hS hL
  exact lv_dup_x1 hC.1 hC.2.1 hd ((am_v_cat b base v).trans hv) ((am_v_cat b base w).trans hw) (k l b base L xs D cA p e s m args below meth c H locs ls hC h0 hH hS hL)

theorem r_dup2 (pc' : Nat) (hp : pc + 1 = pc') {v w : Value} (hd : decode (am_c M) pc = .ok (.dup2, 1)) (hv : v.category = 1) (hw : w.category = 1) (k : AW M Q pc' lv (v :: w :: v :: w :: st) h n cu su) : AW M Q pc lv (v :: w :: st) h n cu su := by
  subst hp
  intro l b base L xs D cA p e s m args below meth c H locs ls hC h0 hH hS hL
  exact lv_dup2_11 hC.1 hC.2.1 hd ((am_v_cat b base v).trans hv) ((am_v_cat b base w).trans hw) (k l b base L xs D cA p e s m args below meth c H locs ls hC h0 hH hS hL)

theorem r_iconst (pc' : Nat) (hp : pc + 1 = pc') {z : Int} (v : Int32) (hd : decode (am_c M) pc = .ok (.iconst z, 1)) (hv : Int32.ofInt z = v) (k : AW M Q pc' lv (.int v :: st) h n cu su) : AW M Q pc lv (st) h n cu su := by
  subst hp
  intro l b base L xs D cA p e s m args below meth c H locs ls hC h0 hH hS hL
  exact lv_iconst hC.1 hC.2.1 hd hv (k l b base L xs D cA p e s m args below meth c H locs ls hC h0 hH hS hL)

theorem r_bipush (pc' : Nat) (hp : pc + 2 = pc') {z : Int} (v : Int32) (hd : decode (am_c M) pc = .ok (.bipush z, 2)) (hv : (Int8.ofInt z).toInt32 = v) (k : AW M Q pc' lv (.int v :: st) h n cu su) : AW M Q pc lv (st) h n cu su := by
  subst hp
  intro l b base L xs D cA p e s m args below meth c H locs ls hC h0 hH hS hL
  exact lv_bipush hC.1 hC.2.1 hd hv (k l b base L xs D cA p e s m args below meth c H locs ls hC h0 hH hS hL)

theorem r_sipush (pc' : Nat) (hp : pc + 3 = pc') {z : Int} (v : Int32) (hd : decode (am_c M) pc = .ok (.sipush z, 3)) (hv : (Int16.ofInt z).toInt32 = v) (k : AW M Q pc' lv (.int v :: st) h n cu su) : AW M Q pc lv (st) h n cu su := by
  subst hp
  intro l b base L xs D cA p e s m args below meth c H locs ls hC h0 hH hS hL
  exact lv_sipush hC.1 hC.2.1 hd hv (k l b base L xs D cA p e s m args below meth c H locs ls hC h0 hH hS hL)

theorem r_lconst (pc' : Nat) (hp : pc + 1 = pc') {z : Fin 2} (v : Int64) (hd : decode (am_c M) pc = .ok (.lconst z, 1)) (hv : Int64.ofNat (z : Nat) = v) (k : AW M Q pc' lv (.long v :: st) h n cu su) : AW M Q pc lv (st) h n cu su := by
  subst hp
  intro l b base L xs D cA p e s m args below meth c H locs ls hC h0 hH hS hL
  exact lv_lconst hC.1 hC.2.1 hd hv (k l b base L xs D cA p e s m args below meth c H locs ls hC h0 hH hS hL)

theorem r_ldc (pc' : Nat) (hp : pc + 2 = pc') {i : Nat} (v : Int32) (hd : decode (am_c M) pc = .ok (.ldc i, 2)) (hc : Cond.constant (am_y M).cls i v ∈ am_T) (k : AW M Q pc' lv (.int v :: st) h n cu su) : AW M Q pc lv (st) h n cu su := by
  subst hp
  intro l b base L xs D cA p e s m args below meth c H locs ls hC h0 hH hS hL
  exact lv_ldc hC.1 hC.2.1 hC.2.2.2.2.2.1 (hC.2.2.2.2.2.2.2.1 _ hc) hd (k l b base L xs D cA p e s m args below meth c H locs ls hC h0 hH hS hL)

theorem r_ldc_w (pc' : Nat) (hp : pc + 3 = pc') {i : Nat} (v : Int32) (hd : decode (am_c M) pc = .ok (.ldc_w i, 3)) (hc : Cond.constant (am_y M).cls i v ∈ am_T) (k : AW M Q pc' lv (.int v :: st) h n cu su) : AW M Q pc lv (st) h n cu su := by
  subst hp
  intro l b base L xs D cA p e s m args below meth c H locs ls hC h0 hH hS hL
  exact lv_ldcw hC.1 hC.2.1 hC.2.2.2.2.2.1 (hC.2.2.2.2.2.2.2.1 _ hc) hd (k l b base L xs D cA p e s m args below meth c H locs ls hC h0 hH hS hL)

theorem r_ldc2 (pc' : Nat) (hp : pc + 3 = pc') {i : Nat} (v : Int64) (hd : decode (am_c M) pc = .ok (.ldc2_w i, 3)) (hc : Cond.constantLong (am_y M).cls i v ∈ am_T) (k : AW M Q pc' lv (.long v :: st) h n cu su) : AW M Q pc lv (st) h n cu su := by
  subst hp
  intro l b base L xs D cA p e s m args below meth c H locs ls hC h0 hH hS hL
  exact lv_ldc2 hC.1 hC.2.1 hC.2.2.2.2.2.1 (hC.2.2.2.2.2.2.2.1 _ hc) hd (k l b base L xs D cA p e s m args below meth c H locs ls hC h0 hH hS hL)

theorem r_iload_n (pc' : Nat) (hp : pc + 1 = pc') {z : Fin 4} (i : Nat) {x : Int32} (hd : decode (am_c M) pc = .ok (.iload_n z, 1)) (hi : (z : Nat) = i) (hv : lv[i]? = some (some (.int x))) (k : AW M Q pc' lv (.int x :: st) h n cu su) : AW M Q pc lv (st) h n cu su := by
  subst hp
  intro l b base L xs D cA p e s m args below meth c H locs ls hC h0 hH hS hL
  exact lv_iload_n hC.1 hC.2.1 hd hi (am_L_at hL hv) (k l b base L xs D cA p e s m args below meth c H locs ls hC h0 hH hS hL)

theorem r_iload (pc' : Nat) (hp : pc + 2 = pc') {i : Nat} {x : Int32} (hd : decode (am_c M) pc = .ok (.iload i, 2)) (hv : lv[i]? = some (some (.int x))) (k : AW M Q pc' lv (.int x :: st) h n cu su) : AW M Q pc lv (st) h n cu su := by
  subst hp
  intro l b base L xs D cA p e s m args below meth c H locs ls hC h0 hH hS hL
  exact lv_iload hC.1 hC.2.1 hd (am_L_at hL hv) (k l b base L xs D cA p e s m args below meth c H locs ls hC h0 hH hS hL)

theorem r_lload_n (pc' : Nat) (hp : pc + 1 = pc') {z : Fin 4} (i : Nat) {x : Int64} (hd : decode (am_c M) pc = .ok (.lload_n z, 1)) (hi : (z : Nat) = i) (hv : lv[i]? = some (some (.long x))) (k : AW M Q pc' lv (.long x :: st) h n cu su) : AW M Q pc lv (st) h n cu su := by
  subst hp
  intro l b base L xs D cA p e s m args below meth c H locs ls hC h0 hH hS hL
  exact lv_lload_n hC.1 hC.2.1 hd hi (am_L_at hL hv) (k l b base L xs D cA p e s m args below meth c H locs ls hC h0 hH hS hL)

theorem r_lload (pc' : Nat) (hp : pc + 2 = pc') {i : Nat} {x : Int64} (hd : decode (am_c M) pc = .ok (.lload i, 2)) (hv : lv[i]? = some (some (.long x))) (k : AW M Q pc' lv (.long x :: st) h n cu su) : AW M Q pc lv (st) h n cu su := by
  subst hp
  intro l b base L xs D cA p e s m args below meth c H locs ls hC h0 hH hS hL
  exact lv_lload hC.1 hC.2.1 hd (am_L_at hL hv) (k l b base L xs D cA p e s m args below meth c H locs ls hC h0 hH hS hL)

theorem r_aload_n (pc' : Nat) (hp : pc + 1 = pc') {z : Fin 4} (i : Nat) {x : Nat} (hd : decode (am_c M) pc = .ok (.aload_n z, 1)) (hi : (z : Nat) = i) (hv : lv[i]? = some (some (.ref x))) (k : AW M Q pc' lv (.ref x :: st) h n cu su) : AW M Q pc lv (st) h n cu su := by
  subst hp
  intro l b base L xs D cA p e s m args below meth c H locs ls hC h0 hH hS hL
  exact lv_aload_n hC.1 hC.2.1 hd hi (am_L_at hL hv) (k l b base L xs D cA p e s m args below meth c H locs ls hC h0 hH hS hL)

theorem r_aload (pc' : Nat) (hp : pc + 2 = pc') {i : Nat} {x : Nat} (hd : decode (am_c M) pc = .ok (.aload i, 2)) (hv : lv[i]? = some (some (.ref x))) (k : AW M Q pc' lv (.ref x :: st) h n cu su) : AW M Q pc lv (st) h n cu su := by
  subst hp
  intro l b base L xs D cA p e s m args below meth c H locs ls hC h0 hH hS hL
  exact lv_aload hC.1 hC.2.1 hd (am_L_at hL hv) (k l b base L xs D cA p e s m args below meth c H locs ls hC h0 hH hS hL)

theorem r_aload_nN (pc' : Nat) (hp : pc + 1 = pc') {z : Fin 4} (i : Nat) (hd : decode (am_c M) pc = .ok (.aload_n z, 1)) (hi : (z : Nat) = i) (hv : lv[i]? = some (some .null)) (k : AW M Q pc' lv (.null :: st) h n cu su) : AW M Q pc lv (st) h n cu su := by
  subst hp
  intro l b base L xs D cA p e s m args below meth c H locs ls hC h0 hH hS hL
  exact lv_aload_nN hC.1 hC.2.1 hd hi (am_L_at hL hv) (k l b base L xs D cA p e s m args below meth c H locs ls hC h0 hH hS hL)

theorem r_aloadN (pc' : Nat) (hp : pc + 2 = pc') {i : Nat} (hd : decode (am_c M) pc = .ok (.aload i, 2)) (hv : lv[i]? = some (some .null)) (k : AW M Q pc' lv (.null :: st) h n cu su) : AW M Q pc lv (st) h n cu su := by
  subst hp
  intro l b base L xs D cA p e s m args below meth c H locs ls hC h0 hH hS hL
  exact lv_aloadN hC.1 hC.2.1 hd (am_L_at hL hv) (k l b base L xs D cA p e s m args below meth c H locs ls hC h0 hH hS hL)

theorem r_istore_n (pc' : Nat) (hp : pc + 1 = pc') {z : Fin 4} (i : Nat) {x : Int32} (lv' : List (Option Value)) (hd : decode (am_c M) pc = .ok (.istore_n z, 1)) (hi : (z : Nat) = i) (hn : i < am_l M) (hl : am_set lv i (.int x) = lv') (k : AW M Q pc' lv' (st) h n cu su) : AW M Q pc lv (.int x :: st) h n cu su := by
  subst hp
  subst hl
  intro l b base L xs D cA p e s m args below meth c H locs ls hC h0 hH hS hL
  exact lv_istore_n hC.1 hC.2.1 hd hi (am_L_has hL) hn rfl (fun ls' hl' => k l b base L xs D cA p e s m args below meth c H locs ls' hC h0 hH hS (am_L_set1 hL hl'))

theorem r_istore (pc' : Nat) (hp : pc + 2 = pc') {i : Nat} {x : Int32} (lv' : List (Option Value)) (hd : decode (am_c M) pc = .ok (.istore i, 2)) (hn : i < am_l M) (hl : am_set lv i (.int x) = lv') (k : AW M Q pc' lv' (st) h n cu su) : AW M Q pc lv (.int x :: st) h n cu su := by
  subst hp
  subst hl
  intro l b base L xs D cA p e s m args below meth c H locs ls hC h0 hH hS hL
  exact lv_istore hC.1 hC.2.1 hd (am_L_has hL) hn rfl (fun ls' hl' => k l b base L xs D cA p e s m args below meth c H locs ls' hC h0 hH hS (am_L_set1 hL hl'))

theorem r_lstore_n (pc' : Nat) (hp : pc + 1 = pc') {z : Fin 4} (i : Nat) {x : Int64} (lv' : List (Option Value)) (hd : decode (am_c M) pc = .ok (.lstore_n z, 1)) (hi : (z : Nat) = i) (hn : i + 1 < am_l M) (hl : am_setl lv i (.long x) = lv') (k : AW M Q pc' lv' (st) h n cu su) : AW M Q pc lv (.long x :: st) h n cu su := by
  subst hp
  subst hl
  intro l b base L xs D cA p e s m args below meth c H locs ls hC h0 hH hS hL
  exact lv_lstore_n hC.1 hC.2.1 hd hi (am_L_has hL) hn rfl (fun ls' hl' => k l b base L xs D cA p e s m args below meth c H locs ls' hC h0 hH hS (am_L_set2 hL hl'))

theorem r_lstore (pc' : Nat) (hp : pc + 2 = pc') {i : Nat} {x : Int64} (lv' : List (Option Value)) (hd : decode (am_c M) pc = .ok (.lstore i, 2)) (hn : i + 1 < am_l M) (hl : am_setl lv i (.long x) = lv') (k : AW M Q pc' lv' (st) h n cu su) : AW M Q pc lv (.long x :: st) h n cu su := by
  subst hp
  subst hl
  intro l b base L xs D cA p e s m args below meth c H locs ls hC h0 hH hS hL
  exact lv_lstore hC.1 hC.2.1 hd (am_L_has hL) hn rfl (fun ls' hl' => k l b base L xs D cA p e s m args below meth c H locs ls' hC h0 hH hS (am_L_set2 hL hl'))

theorem r_astore_n (pc' : Nat) (hp : pc + 1 = pc') {z : Fin 4} (i : Nat) {x : Nat} (lv' : List (Option Value)) (hd : decode (am_c M) pc = .ok (.astore_n z, 1)) (hi : (z : Nat) = i) (hn : i < am_l M) (hl : am_set lv i (.ref x) = lv') (k : AW M Q pc' lv' (st) h n cu su) : AW M Q pc lv (.ref x :: st) h n cu su := by
  subst hp
  subst hl
  intro l b base L xs D cA p e s m args below meth c H locs ls hC h0 hH hS hL
  exact lv_astore_n hC.1 hC.2.1 hd hi (am_L_has hL) hn rfl (fun ls' hl' => k l b base L xs D cA p e s m args below meth c H locs ls' hC h0 hH hS (am_L_set1 hL hl'))

theorem r_astore (pc' : Nat) (hp : pc + 2 = pc') {i : Nat} {x : Nat} (lv' : List (Option Value)) (hd : decode (am_c M) pc = .ok (.astore i, 2)) (hn : i < am_l M) (hl : am_set lv i (.ref x) = lv') (k : AW M Q pc' lv' (st) h n cu su) : AW M Q pc lv (.ref x :: st) h n cu su := by
  subst hp
  subst hl
  intro l b base L xs D cA p e s m args below meth c H locs ls hC h0 hH hS hL
  exact lv_astore hC.1 hC.2.1 hd (am_L_has hL) hn rfl (fun ls' hl' => k l b base L xs D cA p e s m args below meth c H locs ls' hC h0 hH hS (am_L_set1 hL hl'))

theorem r_astore_nN (pc' : Nat) (hp : pc + 1 = pc') {z : Fin 4} (i : Nat) (lv' : List (Option Value)) (hd : decode (am_c M) pc = .ok (.astore_n z, 1)) (hi : (z : Nat) = i) (hn : i < am_l M) (hl : am_set lv i .null = lv') (k : AW M Q pc' lv' (st) h n cu su) : AW M Q pc lv (.null :: st) h n cu su := by
  subst hp
  subst hl
  intro l b base L xs D cA p e s m args below meth c H locs ls hC h0 hH hS hL
  exact lv_astore_nN hC.1 hC.2.1 hd hi (am_L_has hL) hn rfl (fun ls' hl' => k l b base L xs D cA p e s m args below meth c H locs ls' hC h0 hH hS (am_L_set1 hL hl'))

theorem r_astoreN (pc' : Nat) (hp : pc + 2 = pc') {i : Nat} (lv' : List (Option Value)) (hd : decode (am_c M) pc = .ok (.astore i, 2)) (hn : i < am_l M) (hl : am_set lv i .null = lv') (k : AW M Q pc' lv' (st) h n cu su) : AW M Q pc lv (.null :: st) h n cu su := by
  subst hp
  subst hl
  intro l b base L xs D cA p e s m args below meth c H locs ls hC h0 hH hS hL
  exact lv_astoreN hC.1 hC.2.1 hd (am_L_has hL) hn rfl (fun ls' hl' => k l b base L xs D cA p e s m args below meth c H locs ls' hC h0 hH hS (am_L_set1 hL hl'))

theorem r_iinc (pc' : Nat) (hp : pc + 3 = pc') {i : Nat} {z : Int} {x : Int32} (v : Int32) (lv' : List (Option Value)) (hd : decode (am_c M) pc = .ok (.iinc i z, 3)) (hv : lv[i]? = some (some (.int x))) (hx : x + Int32.ofInt z = v) (hn : i < am_l M) (hl : am_set lv i (.int v) = lv') (k : AW M Q pc' lv' st h n cu su) : AW M Q pc lv st h n cu su := by
  subst hp
  subst hl
  intro l b base L xs D cA p e s m args below meth c H locs ls hC h0 hH hS hL
  obtain ⟨j, hj⟩ := List.getElem?_of_mem (am_as_mem (b := b) (base := base) (q := (i, Value.int x)).mpr ⟨_, hv, rfl⟩)
  exact lv_iinc hC.1 hC.2.1 hd (am_L_has hL) hj hx hn rfl (fun ls' hl' => k l b base L xs D cA p e s m args below meth c H locs ls' hC h0 hH hS (am_L_set1 hL hl'))

theorem r_if_eq (pc' tgt : Nat) (hp : pc + 3 = pc') {x : Int32} {off : Int} (hd : decode (am_c M) pc = .ok (.ifCond .eq off, 3)) (ht : (pc : Int) + off = (tgt : Int)) (kt : (x = 0) → AW M Q tgt lv st h n cu su) (kf : ¬ (x = 0) → AW M Q pc' lv st h n cu su) : AW M Q pc lv (.int x :: st) h n cu su := by
  subst hp
  intro l b base L xs D cA p e s m args below meth c H locs ls hC h0 hH hS hL
  exact lv_if_eq hC.1 hC.2.1 hd ht (fun q => kt q l b base L xs D cA p e s m args below meth c H locs ls hC h0 hH hS hL) (fun q => kf q l b base L xs D cA p e s m args below meth c H locs ls hC h0 hH hS hL)

theorem r_icmp_eq (pc' tgt : Nat) (hp : pc + 3 = pc') {x y : Int32} {off : Int} (hd : decode (am_c M) pc = .ok (.if_icmp .eq off, 3)) (ht : (pc : Int) + off = (tgt : Int)) (kt : (x = y) → AW M Q tgt lv st h n cu su) (kf : ¬ (x = y) → AW M Q pc' lv st h n cu su) : AW M Q pc lv (.int y :: .int x :: st) h n cu su := by
  subst hp
  intro l b base L xs D cA p e s m args below meth c H locs ls hC h0 hH hS hL
  exact lv_icmp_eq hC.1 hC.2.1 hd ht (fun q => kt q l b base L xs D cA p e s m args below meth c H locs ls hC h0 hH hS hL) (fun q => kf q l b base L xs D cA p e s m args below meth c H locs ls hC h0 hH hS hL)

theorem r_if_ne (pc' tgt : Nat) (hp : pc + 3 = pc') {x : Int32} {off : Int} (hd : decode (am_c M) pc = .ok (.ifCond .ne off, 3)) (ht : (pc : Int) + off = (tgt : Int)) (kt : (¬ x = 0) → AW M Q tgt lv st h n cu su) (kf : x = 0 → AW M Q pc' lv st h n cu su) : AW M Q pc lv (.int x :: st) h n cu su := by
  subst hp
  intro l b base L xs D cA p e s m args below meth c H locs ls hC h0 hH hS hL
  exact lv_if_ne hC.1 hC.2.1 hd ht (fun q => kt q l b base L xs D cA p e s m args below meth c H locs ls hC h0 hH hS hL) (fun q => kf q l b base L xs D cA p e s m args below meth c H locs ls hC h0 hH hS hL)

theorem r_icmp_ne (pc' tgt : Nat) (hp : pc + 3 = pc') {x y : Int32} {off : Int} (hd : decode (am_c M) pc = .ok (.if_icmp .ne off, 3)) (ht : (pc : Int) + off = (tgt : Int)) (kt : (¬ x = y) → AW M Q tgt lv st h n cu su) (kf : x = y → AW M Q pc' lv st h n cu su) : AW M Q pc lv (.int y :: .int x :: st) h n cu su := by
  subst hp
  intro l b base L xs D cA p e s m args below meth c H locs ls hC h0 hH hS hL
  exact lv_icmp_ne hC.1 hC.2.1 hd ht (fun q => kt q l b base L xs D cA p e s m args below meth c H locs ls hC h0 hH hS hL) (fun q => kf q l b base L xs D cA p e s m args below meth c H locs ls hC h0 hH hS hL)

theorem r_if_lt (pc' tgt : Nat) (hp : pc + 3 = pc') {x : Int32} {off : Int} (hd : decode (am_c M) pc = .ok (.ifCond .lt off, 3)) (ht : (pc : Int) + off = (tgt : Int)) (kt : (x < 0) → AW M Q tgt lv st h n cu su) (kf : ¬ (x < 0) → AW M Q pc' lv st h n cu su) : AW M Q pc lv (.int x :: st) h n cu su := by
  subst hp
  intro l b base L xs D cA p e s m args below meth c H locs ls hC h0 hH hS hL
  exact lv_if_lt hC.1 hC.2.1 hd ht (fun q => kt q l b base L xs D cA p e s m args below meth c H locs ls hC h0 hH hS hL) (fun q => kf q l b base L xs D cA p e s m args below meth c H locs ls hC h0 hH hS hL)

theorem r_icmp_lt (pc' tgt : Nat) (hp : pc + 3 = pc') {x y : Int32} {off : Int} (hd : decode (am_c M) pc = .ok (.if_icmp .lt off, 3)) (ht : (pc : Int) + off = (tgt : Int)) (kt : (x < y) → AW M Q tgt lv st h n cu su) (kf : ¬ (x < y) → AW M Q pc' lv st h n cu su) : AW M Q pc lv (.int y :: .int x :: st) h n cu su := by
  subst hp
  intro l b base L xs D cA p e s m args below meth c H locs ls hC h0 hH hS hL
  exact lv_icmp_lt hC.1 hC.2.1 hd ht (fun q => kt q l b base L xs D cA p e s m args below meth c H locs ls hC h0 hH hS hL) (fun q => kf q l b base L xs D cA p e s m args below meth c H locs ls hC h0 hH hS hL)

theorem r_if_ge (pc' tgt : Nat) (hp : pc + 3 = pc') {x : Int32} {off : Int} (hd : decode (am_c M) pc = .ok (.ifCond .ge off, 3)) (ht : (pc : Int) + off = (tgt : Int)) (kt : (0 ≤ x) → AW M Q tgt lv st h n cu su) (kf : ¬ (0 ≤ x) → AW M Q pc' lv st h n cu su) : AW M Q pc lv (.int x :: st) h n cu su := by
  subst hp
  intro l b base L xs D cA p e s m args below meth c H locs ls hC h0 hH hS hL
  exact lv_if_ge hC.1 hC.2.1 hd ht (fun q => kt q l b base L xs D cA p e s m args below meth c H locs ls hC h0 hH hS hL) (fun q => kf q l b base L xs D cA p e s m args below meth c H locs ls hC h0 hH hS hL)

theorem r_icmp_ge (pc' tgt : Nat) (hp : pc + 3 = pc') {x y : Int32} {off : Int} (hd : decode (am_c M) pc = .ok (.if_icmp .ge off, 3)) (ht : (pc : Int) + off = (tgt : Int)) (kt : (y ≤ x) → AW M Q tgt lv st h n cu su) (kf : ¬ (y ≤ x) → AW M Q pc' lv st h n cu su) : AW M Q pc lv (.int y :: .int x :: st) h n cu su := by
  subst hp
  intro l b base L xs D cA p e s m args below meth c H locs ls hC h0 hH hS hL
  exact lv_icmp_ge hC.1 hC.2.1 hd ht (fun q => kt q l b base L xs D cA p e s m args below meth c H locs ls hC h0 hH hS hL) (fun q => kf q l b base L xs D cA p e s m args below meth c H locs ls hC h0 hH hS hL)

theorem r_if_gt (pc' tgt : Nat) (hp : pc + 3 = pc') {x : Int32} {off : Int} (hd : decode (am_c M) pc = .ok (.ifCond .gt off, 3)) (ht : (pc : Int) + off = (tgt : Int)) (kt : (0 < x) → AW M Q tgt lv st h n cu su) (kf : ¬ (0 < x) → AW M Q pc' lv st h n cu su) : AW M Q pc lv (.int x :: st) h n cu su := by
  subst hp
  intro l b base L xs D cA p e s m args below meth c H locs ls hC h0 hH hS hL
  exact lv_if_gt hC.1 hC.2.1 hd ht (fun q => kt q l b base L xs D cA p e s m args below meth c H locs ls hC h0 hH hS hL) (fun q => kf q l b base L xs D cA p e s m args below meth c H locs ls hC h0 hH hS hL)

theorem r_icmp_gt (pc' tgt : Nat) (hp : pc + 3 = pc') {x y : Int32} {off : Int} (hd : decode (am_c M) pc = .ok (.if_icmp .gt off, 3)) (ht : (pc : Int) + off = (tgt : Int)) (kt : (y < x) → AW M Q tgt lv st h n cu su) (kf : ¬ (y < x) → AW M Q pc' lv st h n cu su) : AW M Q pc lv (.int y :: .int x :: st) h n cu su := by
  subst hp
  intro l b base L xs D cA p e s m args below meth c H locs ls hC h0 hH hS hL
  exact lv_icmp_gt hC.1 hC.2.1 hd ht (fun q => kt q l b base L xs D cA p e s m args below meth c H locs ls hC h0 hH hS hL) (fun q => kf q l b base L xs D cA p e s m args below meth c H locs ls hC h0 hH hS hL)

theorem r_if_le (pc' tgt : Nat) (hp : pc + 3 = pc') {x : Int32} {off : Int} (hd : decode (am_c M) pc = .ok (.ifCond .le off, 3)) (ht : (pc : Int) + off = (tgt : Int)) (kt : (x ≤ 0) → AW M Q tgt lv st h n cu su) (kf : ¬ (x ≤ 0) → AW M Q pc' lv st h n cu su) : AW M Q pc lv (.int x :: st) h n cu su := by
  subst hp
  intro l b base L xs D cA p e s m args below meth c H locs ls hC h0 hH hS hL
  exact lv_if_le hC.1 hC.2.1 hd ht (fun q => kt q l b base L xs D cA p e s m args below meth c H locs ls hC h0 hH hS hL) (fun q => kf q l b base L xs D cA p e s m args below meth c H locs ls hC h0 hH hS hL)

theorem r_icmp_le (pc' tgt : Nat) (hp : pc + 3 = pc') {x y : Int32} {off : Int} (hd : decode (am_c M) pc = .ok (.if_icmp .le off, 3)) (ht : (pc : Int) + off = (tgt : Int)) (kt : (x ≤ y) → AW M Q tgt lv st h n cu su) (kf : ¬ (x ≤ y) → AW M Q pc' lv st h n cu su) : AW M Q pc lv (.int y :: .int x :: st) h n cu su := by
  subst hp
  intro l b base L xs D cA p e s m args below meth c H locs ls hC h0 hH hS hL
  exact lv_icmp_le hC.1 hC.2.1 hd ht (fun q => kt q l b base L xs D cA p e s m args below meth c H locs ls hC h0 hH hS hL) (fun q => kf q l b base L xs D cA p e s m args below meth c H locs ls hC h0 hH hS hL)

theorem r_goto (tgt : Nat) {off : Int} (hd : decode (am_c M) pc = .ok (.goto off, 3)) (ht : (pc : Int) + off = (tgt : Int)) (k : AW M Q tgt lv st h n cu su) : AW M Q pc lv st h n cu su := by
  intro l b base L xs D cA p e s m args below meth c H locs ls hC h0 hH hS hL
  exact lv_goto hC.1 hC.2.1 hd ht (k l b base L xs D cA p e s m args below meth c H locs ls hC h0 hH hS hL)

theorem r_ifnonnull (tgt : Nat) {off : Int} {a : Nat} (hd : decode (am_c M) pc = .ok (.ifnonnull off, 3)) (ht : (pc : Int) + off = (tgt : Int)) (k : AW M Q tgt lv st h n cu su) : AW M Q pc lv (.ref a :: st) h n cu su := by
  intro l b base L xs D cA p e s m args below meth c H locs ls hC h0 hH hS hL
  exact lv_ifnonnull hC.1 hC.2.1 hd ht (k l b base L xs D cA p e s m args below meth c H locs ls hC h0 hH hS hL)
theorem r_ifnonnullN (pc' : Nat) (hp : pc + 3 = pc') {off : Int} (hd : decode (am_c M) pc = .ok (.ifnonnull off, 3)) (k : AW M Q pc' lv st h n cu su) : AW M Q pc lv (.null :: st) h n cu su := by
  subst hp
  intro l b base L xs D cA p e s m args below meth c H locs ls hC h0 hH hS hL
  exact lv_ifnonnullN hC.1 hC.2.1 hd (k l b base L xs D cA p e s m args below meth c H locs ls hC h0 hH hS hL)
theorem r_ifnullN (tgt : Nat) {off : Int} (hd : decode (am_c M) pc = .ok (.ifnull off, 3)) (ht : (pc : Int) + off = (tgt : Int)) (k : AW M Q tgt lv st h n cu su) : AW M Q pc lv (.null :: st) h n cu su := by
  intro l b base L xs D cA p e s m args below meth c H locs ls hC h0 hH hS hL
  exact lv_ifnullN hC.1 hC.2.1 hd ht (k l b base L xs D cA p e s m args below meth c H locs ls hC h0 hH hS hL)
theorem r_ifnull (pc' : Nat) (hp : pc + 3 = pc') {off : Int} {a : Nat} (hd : decode (am_c M) pc = .ok (.ifnull off, 3)) (k : AW M Q pc' lv st h n cu su) : AW M Q pc lv (.ref a :: st) h n cu su := by
  subst hp
  intro l b base L xs D cA p e s m args below meth c H locs ls hC h0 hH hS hL
  exact lv_ifnull hC.1 hC.2.1 hd (k l b base L xs D cA p e s m args below meth c H locs ls hC h0 hH hS hL)
theorem r_tabOut (tgt : Nat) {dflt lo hi : Int} {offs : Array Int} {len : Nat} {x : Int32} (hd : decode (am_c M) pc = .ok (.tableswitch dflt lo hi offs, len)) (hx : x.toInt < lo ∨ hi < x.toInt) (ht : (pc : Int) + dflt = (tgt : Int)) (k : AW M Q tgt lv st h n cu su) : AW M Q pc lv (.int x :: st) h n cu su := by
  intro l b base L xs D cA p e s m args below meth c H locs ls hC h0 hH hS hL
  exact lv_tableOut hC.1 hC.2.1 hd hx ht (k l b base L xs D cA p e s m args below meth c H locs ls hC h0 hH hS hL)
theorem r_tabIn (tgt : Nat) {dflt lo hi off : Int} {offs : Array Int} {len : Nat} {x : Int32} (hd : decode (am_c M) pc = .ok (.tableswitch dflt lo hi offs, len)) (h1 : ¬ x.toInt < lo) (h2 : ¬ hi < x.toInt) (ho : offs[(x.toInt - lo).toNat]? = some off) (ht : (pc : Int) + off = (tgt : Int)) (k : AW M Q tgt lv st h n cu su) : AW M Q pc lv (.int x :: st) h n cu su := by
  intro l b base L xs D cA p e s m args below meth c H locs ls hC h0 hH hS hL
  exact lv_tableIn hC.1 hC.2.1 hd h1 h2 ho ht (k l b base L xs D cA p e s m args below meth c H locs ls hC h0 hH hS hL)

theorem r_ireturn {x : Int32} (hr : am_r M = some .int) (hd : decode (am_c M) pc = .ok (.ireturn, 1)) (hcu : cu ≤ am_mc M) (hsu : su ≤ am_ms M) (hq : Q (some (.int x)) h n) : AW M Q pc lv [.int x] h n cu su := by
  intro l b base L xs D cA p e s m args below meth c H locs ls hC h0 hH hS hL
  refine W.widen hcu hsu ?_
  exact W.iret hC.1 hC.2.1 (hC.2.2.1.trans hr) (fun t ht hW => ⟨⟨some (.int x), h, n, rfl, hq, h0, by rw [ht]; exact hH⟩, hS.F ht⟩) hS.2.2 hd hC.2.2.2.1

theorem r_zreturn {x : Int32} (hr : am_r M = some .boolean) (hn : narrow .boolean (.int x) = .int x) (hd : decode (am_c M) pc = .ok (.ireturn, 1)) (hcu : cu ≤ am_mc M) (hsu : su ≤ am_ms M) (hq : Q (some (.int x)) h n) : AW M Q pc lv [.int x] h n cu su := by
  intro l b base L xs D cA p e s m args below meth c H locs ls hC h0 hH hS hL
  refine W.widen hcu hsu ?_
  exact W.zret hC.1 hC.2.1 (hC.2.2.1.trans hr) hn (fun t ht hW => ⟨⟨some (.int x), h, n, rfl, hq, h0, by rw [ht]; exact hH⟩, hS.F ht⟩) hS.2.2 hd hC.2.2.2.1

theorem r_lreturn {x : Int64} (hr : am_r M = some .long) (hd : decode (am_c M) pc = .ok (.lreturn, 1)) (hcu : cu ≤ am_mc M) (hsu : su ≤ am_ms M) (hq : Q (some (.long x)) h n) : AW M Q pc lv [.long x] h n cu su := by
  intro l b base L xs D cA p e s m args below meth c H locs ls hC h0 hH hS hL
  refine W.widen hcu hsu ?_
  exact W.lret hC.1 hC.2.1 (hC.2.2.1.trans hr) (fun t ht hW => ⟨⟨some (.long x), h, n, rfl, hq, h0, by rw [ht]; exact hH⟩, hS.F ht⟩) hS.2.2 hd hC.2.2.2.1

theorem r_areturn {a : Nat} {C : String} (hr : am_r M = some (.object C)) (hd : decode (am_c M) pc = .ok (.areturn, 1)) (hcu : cu ≤ am_mc M) (hsu : su ≤ am_ms M) (hq : Q (some (.ref a)) h n) : AW M Q pc lv [.ref a] h n cu su := by
  intro l b base L xs D cA p e s m args below meth c H locs ls hC h0 hH hS hL
  refine W.widen hcu hsu ?_
  exact W.aret hC.1 hC.2.1 (hC.2.2.1.trans hr) (Or.inl ⟨_, rfl⟩) (Or.inr ⟨_, rfl⟩) (fun t ht hW => ⟨⟨some (.ref a), h, n, rfl, hq, h0, by rw [ht]; exact hH⟩, hS.F ht⟩) hS.2.2 hd hC.2.2.2.1

theorem r_areturnN {C : String} (hr : am_r M = some (.object C)) (hd : decode (am_c M) pc = .ok (.areturn, 1)) (hcu : cu ≤ am_mc M) (hsu : su ≤ am_ms M) (hq : Q (some .null) h n) : AW M Q pc lv [.null] h n cu su := by
  intro l b base L xs D cA p e s m args below meth c H locs ls hC h0 hH hS hL
  refine W.widen hcu hsu ?_
  exact W.aret hC.1 hC.2.1 (hC.2.2.1.trans hr) (Or.inl ⟨_, rfl⟩) (Or.inl rfl) (fun t ht hW => ⟨⟨some .null, h, n, rfl, hq, h0, by rw [ht]; exact hH⟩, hS.F ht⟩) hS.2.2 hd hC.2.2.2.1

theorem r_return (hr : am_r M = none) (hd : decode (am_c M) pc = .ok (.return_, 1)) (hcu : cu ≤ am_mc M) (hsu : su ≤ am_ms M) (hq : Q (none) h n) : AW M Q pc lv [] h n cu su := by
  intro l b base L xs D cA p e s m args below meth c H locs ls hC h0 hH hS hL
  refine W.widen hcu hsu ?_
  exact W.vret hC.1 hC.2.1 (hC.2.2.1.trans hr) (fun t ht hW => ⟨⟨none, h, n, rfl, hq, h0, by rw [ht]; exact hH⟩, hS.F ht⟩) hS.2.2 hd hC.2.2.2.1

/-- a weaker end -/
theorem AW.mono {Q' : am_P} (hq : ∀ r h n, Q r h n → Q' r h n) (k : AW M Q pc lv st h n cu su) : AW M Q' pc lv st h n cu su := by
  intro l b base L xs D cA p e s m args below meth c H locs ls hC h0 hH hS hL T hT X
  obtain ⟨t, h1, o, h2, h3, ⟨⟨r, h', n', g1, g2, g3⟩, g4⟩, g5⟩ := k l b base L xs D cA p e s m args below meth c H locs ls hC h0 hH hS hL T hT X
  exact ⟨t, h1, o, h2, h3, ⟨⟨r, h', n', g1, hq _ _ _ g2, g3⟩, g4⟩, g5⟩
/-- more made than was -/
theorem AW.widen {cu' su' : Nat} (h1 : cu ≤ cu') (h2 : su ≤ su') (k : AW M Q pc lv st h n cu' su') : AW M Q pc lv st h n cu su := by
  intro l b base L xs D cA p e s m args below meth c H locs ls hC h0 hH hS hL
  exact W.widen h1 h2 (k l b base L xs D cA p e s m args below meth c H locs ls hC h0 hH hS hL)
/-- fewer locals are known -/
theorem AW.sub {lv' : List (Option Value)} (hl : ∀ (i : Nat) (v : Value), lv'[i]? = some (some v) → lv[i]? = some (some v)) (k : AW M Q pc lv' st h n cu su) : AW M Q pc lv st h n cu su := by
  intro l b base L xs D cA p e s m args below meth c H locs ls hC h0 hH hS hL
  exact k l b base L xs D cA p e s m args below meth c H locs ls hC h0 hH hS ⟨hL.1, hL.2.1, fun i v hi => hL.2.2 i v (hl i v hi)⟩
end AMR

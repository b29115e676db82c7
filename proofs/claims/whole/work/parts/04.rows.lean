section WXR
variable {l : Launch} {D : va_G} {base : Nat} {z : Nat × Nat} {M : MI} {sh : List Sh} {pc : Nat} {ls : List (Option Value)} {st : List Value} {h : Hp} {Q : List Sh → Hp → Option Value → Prop}
theorem wx_iconst {n : Int} {v : Int32} (hd : decode M.2.1 pc = .ok (.iconst n, 1)) (hv : Int32.ofInt n = v) (k : WX l D base z M sh (pc + 1) ls (.int v :: st) h Q) : WX l D base z M sh pc ls (st) h Q :=
  fun p e s m args below meth c C H locs A hP hS hL => lv_iconst C.1 C.2.1 hd hv (k p e s m args below meth c C H locs A hP hS hL)
theorem wx_bipush {n : Int} {v : Int32} (hd : decode M.2.1 pc = .ok (.bipush n, 2)) (hv : (Int8.ofInt n).toInt32 = v) (k : WX l D base z M sh (pc + 2) ls (.int v :: st) h Q) : WX l D base z M sh pc ls (st) h Q :=
  fun p e s m args below meth c C H locs A hP hS hL => lv_bipush C.1 C.2.1 hd hv (k p e s m args below meth c C H locs A hP hS hL)
theorem wx_sipush {n : Int} {v : Int32} (hd : decode M.2.1 pc = .ok (.sipush n, 3)) (hv : (Int16.ofInt n).toInt32 = v) (k : WX l D base z M sh (pc + 3) ls (.int v :: st) h Q) : WX l D base z M sh pc ls (st) h Q :=
  fun p e s m args below meth c C H locs A hP hS hL => lv_sipush C.1 C.2.1 hd hv (k p e s m args below meth c C H locs A hP hS hL)
theorem wx_lconst {n : Fin 2} {v : Int64} (hd : decode M.2.1 pc = .ok (.lconst n, 1)) (hv : Int64.ofNat (n : Nat) = v) (k : WX l D base z M sh (pc + 1) ls (.long v :: st) h Q) : WX l D base z M sh pc ls (st) h Q :=
  fun p e s m args below meth c C H locs A hP hS hL => lv_lconst C.1 C.2.1 hd hv (k p e s m args below meth c C H locs A hP hS hL)
theorem wx_iload_n {k : Fin 4} {i : Nat} {x : Int32} (hd : decode M.2.1 pc = .ok (.iload_n k, 1)) (hi : (k : Nat) = i) (hg : lget ls i = some (.int x)) (k2 : WX l D base z M sh (pc + 1) ls (.int x :: st) h Q) : WX l D base z M sh pc ls st h Q :=
  fun p e s m args below meth c C H locs A hP hS hL => lv_iload_n C.1 C.2.1 hd hi (by have q := hL.2.2 _ (lvl_get ls 0 i hg); rw [Nat.zero_add] at q; exact q) (k2 p e s m args below meth c C H locs A hP hS hL)
theorem wx_iload {i : Nat} {x : Int32} (hd : decode M.2.1 pc = .ok (.iload i, 2)) (hg : lget ls i = some (.int x)) (k2 : WX l D base z M sh (pc + 2) ls (.int x :: st) h Q) : WX l D base z M sh pc ls st h Q :=
  fun p e s m args below meth c C H locs A hP hS hL => lv_iload C.1 C.2.1 hd (by have q := hL.2.2 _ (lvl_get ls 0 i hg); rw [Nat.zero_add] at q; exact q) (k2 p e s m args below meth c C H locs A hP hS hL)
theorem wx_lload_n {k : Fin 4} {i : Nat} {x : Int64} (hd : decode M.2.1 pc = .ok (.lload_n k, 1)) (hi : (k : Nat) = i) (hg : lget ls i = some (.long x)) (k2 : WX l D base z M sh (pc + 1) ls (.long x :: st) h Q) : WX l D base z M sh pc ls st h Q :=
  fun p e s m args below meth c C H locs A hP hS hL => lv_lload_n C.1 C.2.1 hd hi (by have q := hL.2.2 _ (lvl_get ls 0 i hg); rw [Nat.zero_add] at q; exact q) (k2 p e s m args below meth c C H locs A hP hS hL)
theorem wx_lload {i : Nat} {x : Int64} (hd : decode M.2.1 pc = .ok (.lload i, 2)) (hg : lget ls i = some (.long x)) (k2 : WX l D base z M sh (pc + 2) ls (.long x :: st) h Q) : WX l D base z M sh pc ls st h Q :=
  fun p e s m args below meth c C H locs A hP hS hL => lv_lload C.1 C.2.1 hd (by have q := hL.2.2 _ (lvl_get ls 0 i hg); rw [Nat.zero_add] at q; exact q) (k2 p e s m args below meth c C H locs A hP hS hL)
theorem wx_aload_n {k : Fin 4} {i : Nat} {x : Nat} (hd : decode M.2.1 pc = .ok (.aload_n k, 1)) (hi : (k : Nat) = i) (hg : lget ls i = some (.ref x)) (k2 : WX l D base z M sh (pc + 1) ls (.ref x :: st) h Q) : WX l D base z M sh pc ls st h Q :=
  fun p e s m args below meth c C H locs A hP hS hL => lv_aload_n C.1 C.2.1 hd hi (by have q := hL.2.2 _ (lvl_get ls 0 i hg); rw [Nat.zero_add] at q; exact q) (k2 p e s m args below meth c C H locs A hP hS hL)
theorem wx_istore_n {k : Fin 4} {i : Nat} {x : Int32} {ls2 : List (Option Value)} (hd : decode M.2.1 pc = .ok (.istore_n k, 1)) (hi : (k : Nat) = i) (hn : i < M.2.2.1) (ho : okst ls i = true) (he : lset ls i (some (.int x)) = ls2) (k2 : WX l D base z M sh (pc + 1) ls2 st h Q) : WX l D base z M sh pc ls (.int x :: st) h Q := by
  subst he
  exact fun p e s m args below meth c C H locs A hP hS hL => lv_istore_n C.1 C.2.1 hd hi hL hn rfl (fun A2 hL2 => k2 p e s m args below meth c C H locs A2 hP hS (lv_setI ho hL2))
theorem wx_istore {i : Nat} {x : Int32} {ls2 : List (Option Value)} (hd : decode M.2.1 pc = .ok (.istore i, 2)) (hn : i < M.2.2.1) (ho : okst ls i = true) (he : lset ls i (some (.int x)) = ls2) (k2 : WX l D base z M sh (pc + 2) ls2 st h Q) : WX l D base z M sh pc ls (.int x :: st) h Q := by
  subst he
  exact fun p e s m args below meth c C H locs A hP hS hL => lv_istore C.1 C.2.1 hd hL hn rfl (fun A2 hL2 => k2 p e s m args below meth c C H locs A2 hP hS (lv_setI ho hL2))
theorem wx_astore_n {k : Fin 4} {i : Nat} {x : Nat} {ls2 : List (Option Value)} (hd : decode M.2.1 pc = .ok (.astore_n k, 1)) (hi : (k : Nat) = i) (hn : i < M.2.2.1) (ho : okst ls i = true) (he : lset ls i (some (.ref x)) = ls2) (k2 : WX l D base z M sh (pc + 1) ls2 st h Q) : WX l D base z M sh pc ls (.ref x :: st) h Q := by
  subst he
  exact fun p e s m args below meth c C H locs A hP hS hL => lv_astore_n C.1 C.2.1 hd hi hL hn rfl (fun A2 hL2 => k2 p e s m args below meth c C H locs A2 hP hS (lv_setI ho hL2))
theorem wx_lstore_n {k : Fin 4} {i : Nat} {x : Int64} {ls2 : List (Option Value)} (hd : decode M.2.1 pc = .ok (.lstore_n k, 1)) (hi : (k : Nat) = i) (hn : i + 1 < M.2.2.1) (ho : okst ls i = true) (he : lset (lset ls i (some (.long x))) (i + 1) none = ls2) (k2 : WX l D base z M sh (pc + 1) ls2 st h Q) : WX l D base z M sh pc ls (.long x :: st) h Q := by
  subst he
  exact fun p e s m args below meth c C H locs A hP hS hL => lv_lstore_n C.1 C.2.1 hd hi hL hn rfl (fun A2 hL2 => k2 p e s m args below meth c C H locs A2 hP hS (lv_setL ho hL2))
theorem wx_iinc {i : Nat} {n : Int} {x v : Int32} {ls2 : List (Option Value)} (hd : decode M.2.1 pc = .ok (.iinc i n, 3)) (hg : lget ls i = some (.int x)) (hv : x + Int32.ofInt n = v) (hn : i < M.2.2.1) (ho : okst ls i = true) (he : lset ls i (some (.int v)) = ls2) (k2 : WX l D base z M sh (pc + 3) ls2 st h Q) : WX l D base z M sh pc ls st h Q := by
  subst he
  intro p e s m args below meth c C H locs A hP hS hL
  have q := lvl_get (base := base) ls 0 i hg
  rw [Nat.zero_add] at q
  obtain ⟨j, hj⟩ := List.getElem?_of_mem q
  exact lv_iinc C.1 C.2.1 hd hL hj hv hn rfl (fun A2 hL2 => k2 p e s m args below meth c C H locs A2 hP hS (lv_setI (v := .int v) ho hL2))
theorem wx_iadd {x y : Int32} (hd : decode M.2.1 pc = .ok (.iadd, 1))  (k : WX l D base z M sh (pc + 1) ls (.int (x + y) :: st) h Q) : WX l D base z M sh pc ls (.int y :: .int x :: st) h Q :=
  fun p e s m args below meth c C H locs A hP hS hL => lv_iadd C.1 C.2.1 hd  (k p e s m args below meth c C H locs A hP hS hL)
theorem wx_isub {x y : Int32} (hd : decode M.2.1 pc = .ok (.isub, 1))  (k : WX l D base z M sh (pc + 1) ls (.int (x - y) :: st) h Q) : WX l D base z M sh pc ls (.int y :: .int x :: st) h Q :=
  fun p e s m args below meth c C H locs A hP hS hL => lv_isub C.1 C.2.1 hd  (k p e s m args below meth c C H locs A hP hS hL)
theorem wx_imul {x y : Int32} (hd : decode M.2.1 pc = .ok (.imul, 1))  (k : WX l D base z M sh (pc + 1) ls (.int (x * y) :: st) h Q) : WX l D base z M sh pc ls (.int y :: .int x :: st) h Q :=
  fun p e s m args below meth c C H locs A hP hS hL => lv_imul C.1 C.2.1 hd  (k p e s m args below meth c C H locs A hP hS hL)
theorem wx_iand {x y : Int32} (hd : decode M.2.1 pc = .ok (.iand, 1))  (k : WX l D base z M sh (pc + 1) ls (.int (x &&& y) :: st) h Q) : WX l D base z M sh pc ls (.int y :: .int x :: st) h Q :=
  fun p e s m args below meth c C H locs A hP hS hL => lv_iand C.1 C.2.1 hd  (k p e s m args below meth c C H locs A hP hS hL)
theorem wx_ior {x y : Int32} (hd : decode M.2.1 pc = .ok (.ior, 1))  (k : WX l D base z M sh (pc + 1) ls (.int (x ||| y) :: st) h Q) : WX l D base z M sh pc ls (.int y :: .int x :: st) h Q :=
  fun p e s m args below meth c C H locs A hP hS hL => lv_ior C.1 C.2.1 hd  (k p e s m args below meth c C H locs A hP hS hL)
theorem wx_ixor {x y : Int32} (hd : decode M.2.1 pc = .ok (.ixor, 1))  (k : WX l D base z M sh (pc + 1) ls (.int (x ^^^ y) :: st) h Q) : WX l D base z M sh pc ls (.int y :: .int x :: st) h Q :=
  fun p e s m args below meth c C H locs A hP hS hL => lv_ixor C.1 C.2.1 hd  (k p e s m args below meth c C H locs A hP hS hL)
theorem wx_ishl {x y : Int32} (hd : decode M.2.1 pc = .ok (.ishl, 1))  (k : WX l D base z M sh (pc + 1) ls (.int (x <<< (y &&& 31)) :: st) h Q) : WX l D base z M sh pc ls (.int y :: .int x :: st) h Q :=
  fun p e s m args below meth c C H locs A hP hS hL => lv_ishl C.1 C.2.1 hd  (k p e s m args below meth c C H locs A hP hS hL)
theorem wx_ishr {x y : Int32} (hd : decode M.2.1 pc = .ok (.ishr, 1))  (k : WX l D base z M sh (pc + 1) ls (.int (x >>> (y &&& 31)) :: st) h Q) : WX l D base z M sh pc ls (.int y :: .int x :: st) h Q :=
  fun p e s m args below meth c C H locs A hP hS hL => lv_ishr C.1 C.2.1 hd  (k p e s m args below meth c C H locs A hP hS hL)
theorem wx_iushr {x y : Int32} (hd : decode M.2.1 pc = .ok (.iushr, 1))  (k : WX l D base z M sh (pc + 1) ls (.int (x.toUInt32 >>> (y.toUInt32 &&& Int32.toUInt32 31)).toInt32 :: st) h Q) : WX l D base z M sh pc ls (.int y :: .int x :: st) h Q :=
  fun p e s m args below meth c C H locs A hP hS hL => lv_iushr C.1 C.2.1 hd rfl (k p e s m args below meth c C H locs A hP hS hL)
theorem wx_idiv {x y : Int32} (hd : decode M.2.1 pc = .ok (.idiv, 1)) (hne : ¬ y = 0) (k : WX l D base z M sh (pc + 1) ls (.int (x / y) :: st) h Q) : WX l D base z M sh pc ls (.int y :: .int x :: st) h Q :=
  fun p e s m args below meth c C H locs A hP hS hL => lv_idiv C.1 C.2.1 hd hne (k p e s m args below meth c C H locs A hP hS hL)
theorem wx_irem {x y : Int32} (hd : decode M.2.1 pc = .ok (.irem, 1)) (hne : ¬ y = 0) (k : WX l D base z M sh (pc + 1) ls (.int (x - x / y * y) :: st) h Q) : WX l D base z M sh pc ls (.int y :: .int x :: st) h Q :=
  fun p e s m args below meth c C H locs A hP hS hL => lv_irem C.1 C.2.1 hd hne (k p e s m args below meth c C H locs A hP hS hL)
theorem wx_ineg {x : Int32} (hd : decode M.2.1 pc = .ok (.ineg, 1))  (k : WX l D base z M sh (pc + 1) ls (.int (-x) :: st) h Q) : WX l D base z M sh pc ls (.int x :: st) h Q :=
  fun p e s m args below meth c C H locs A hP hS hL => lv_ineg C.1 C.2.1 hd  (k p e s m args below meth c C H locs A hP hS hL)
theorem wx_ladd {x y : Int64} (hd : decode M.2.1 pc = .ok (.ladd, 1))  (k : WX l D base z M sh (pc + 1) ls (.long (x + y) :: st) h Q) : WX l D base z M sh pc ls (.long y :: .long x :: st) h Q :=
  fun p e s m args below meth c C H locs A hP hS hL => lv_ladd C.1 C.2.1 hd  (k p e s m args below meth c C H locs A hP hS hL)
theorem wx_lmul {x y : Int64} (hd : decode M.2.1 pc = .ok (.lmul, 1))  (k : WX l D base z M sh (pc + 1) ls (.long (x * y) :: st) h Q) : WX l D base z M sh pc ls (.long y :: .long x :: st) h Q :=
  fun p e s m args below meth c C H locs A hP hS hL => lv_lmul C.1 C.2.1 hd  (k p e s m args below meth c C H locs A hP hS hL)
theorem wx_land {x y : Int64} (hd : decode M.2.1 pc = .ok (.land, 1))  (k : WX l D base z M sh (pc + 1) ls (.long (x &&& y) :: st) h Q) : WX l D base z M sh pc ls (.long y :: .long x :: st) h Q :=
  fun p e s m args below meth c C H locs A hP hS hL => lv_land C.1 C.2.1 hd  (k p e s m args below meth c C H locs A hP hS hL)
theorem wx_lor {x y : Int64} (hd : decode M.2.1 pc = .ok (.lor, 1))  (k : WX l D base z M sh (pc + 1) ls (.long (x ||| y) :: st) h Q) : WX l D base z M sh pc ls (.long y :: .long x :: st) h Q :=
  fun p e s m args below meth c C H locs A hP hS hL => lv_lor C.1 C.2.1 hd  (k p e s m args below meth c C H locs A hP hS hL)
theorem wx_lrem {x y : Int64} (hd : decode M.2.1 pc = .ok (.lrem, 1)) (hne : ¬ y = 0) (k : WX l D base z M sh (pc + 1) ls (.long (x - x / y * y) :: st) h Q) : WX l D base z M sh pc ls (.long y :: .long x :: st) h Q :=
  fun p e s m args below meth c C H locs A hP hS hL => lv_lrem C.1 C.2.1 hd hne (k p e s m args below meth c C H locs A hP hS hL)
theorem wx_lushr {x : Int64} {y : Int32} (hd : decode M.2.1 pc = .ok (.lushr, 1))  (k : WX l D base z M sh (pc + 1) ls (.long (x.toUInt64 >>> (y.toInt64.toUInt64 &&& Int64.toUInt64 63)).toInt64 :: st) h Q) : WX l D base z M sh pc ls (.int y :: .long x :: st) h Q :=
  fun p e s m args below meth c C H locs A hP hS hL => lv_lushr C.1 C.2.1 hd rfl (k p e s m args below meth c C H locs A hP hS hL)
theorem wx_lshl {x : Int64} {y : Int32} (hd : decode M.2.1 pc = .ok (.lshl, 1))  (k : WX l D base z M sh (pc + 1) ls (.long (x <<< (y.toInt64 &&& 63)) :: st) h Q) : WX l D base z M sh pc ls (.int y :: .long x :: st) h Q :=
  fun p e s m args below meth c C H locs A hP hS hL => lv_lshl C.1 C.2.1 hd rfl (k p e s m args below meth c C H locs A hP hS hL)
theorem wx_i2l {x : Int32} (hd : decode M.2.1 pc = .ok (.i2l, 1))  (k : WX l D base z M sh (pc + 1) ls (.long x.toInt64 :: st) h Q) : WX l D base z M sh pc ls (.int x :: st) h Q :=
  fun p e s m args below meth c C H locs A hP hS hL => lv_i2l C.1 C.2.1 hd rfl (k p e s m args below meth c C H locs A hP hS hL)
theorem wx_l2i {x : Int64} (hd : decode M.2.1 pc = .ok (.l2i, 1))  (k : WX l D base z M sh (pc + 1) ls (.int x.toInt32 :: st) h Q) : WX l D base z M sh pc ls (.long x :: st) h Q :=
  fun p e s m args below meth c C H locs A hP hS hL => lv_l2i C.1 C.2.1 hd rfl (k p e s m args below meth c C H locs A hP hS hL)
theorem wx_lcmp {x y : Int64} (hd : decode M.2.1 pc = .ok (.lcmp, 1))  (k : WX l D base z M sh (pc + 1) ls (.int (lg_cmp x y) :: st) h Q) : WX l D base z M sh pc ls (.long y :: .long x :: st) h Q :=
  fun p e s m args below meth c C H locs A hP hS hL => W.lcmp C.1 C.2.1 hd  (k p e s m args below meth c C H locs A hP hS hL)
theorem wx_dup {va : Value} (hd : decode M.2.1 pc = .ok (.dup, 1)) (h1 : va.category = 1) (k : WX l D base z M sh (pc + 1) ls (va :: va :: st) h Q) : WX l D base z M sh pc ls (va :: st) h Q :=
  fun p e s m args below meth c C H locs A hP hS hL => lv_dup C.1 C.2.1 hd (by rw [up_cat]; exact h1) (k p e s m args below meth c C H locs A hP hS hL)
theorem wx_pop {va : Value} (hd : decode M.2.1 pc = .ok (.pop, 1)) (h1 : va.category = 1) (k : WX l D base z M sh (pc + 1) ls (st) h Q) : WX l D base z M sh pc ls (va :: st) h Q :=
  fun p e s m args below meth c C H locs A hP hS hL => lv_pop C.1 C.2.1 hd (by rw [up_cat]; exact h1) (k p e s m args below meth c C H locs A hP hS hL)
theorem wx_dup2 {va vb : Value} (hd : decode M.2.1 pc = .ok (.dup2, 1)) (h1 : va.category = 1) (h2 : vb.category = 1) (k : WX l D base z M sh (pc + 1) ls (va :: vb :: va :: vb :: st) h Q) : WX l D base z M sh pc ls (va :: vb :: st) h Q :=
  fun p e s m args below meth c C H locs A hP hS hL => lv_dup2_11 C.1 C.2.1 hd (by rw [up_cat]; exact h1) (by rw [up_cat]; exact h2) (k p e s m args below meth c C H locs A hP hS hL)
theorem wx_if_eq {x : Int32} {off : Int} {tgt : Nat} (hd : decode M.2.1 pc = .ok (.ifCond .eq off, 3)) (ht : (pc : Int) + off = (tgt : Int)) (kt : x = 0 → WX l D base z M sh tgt ls st h Q) (kf : ¬ x = 0 → WX l D base z M sh (pc + 3) ls st h Q) : WX l D base z M sh pc ls (.int x :: st) h Q :=
  fun p e s m args below meth c C H locs A hP hS hL => lv_if_eq C.1 C.2.1 hd ht (fun q => kt q p e s m args below meth c C H locs A hP hS hL) (fun q => kf q p e s m args below meth c C H locs A hP hS hL)
theorem wx_icmp_eq {x y : Int32} {off : Int} {tgt : Nat} (hd : decode M.2.1 pc = .ok (.if_icmp .eq off, 3)) (ht : (pc : Int) + off = (tgt : Int)) (kt : x = y → WX l D base z M sh tgt ls st h Q) (kf : ¬ x = y → WX l D base z M sh (pc + 3) ls st h Q) : WX l D base z M sh pc ls (.int y :: .int x :: st) h Q :=
  fun p e s m args below meth c C H locs A hP hS hL => lv_icmp_eq C.1 C.2.1 hd ht (fun q => kt q p e s m args below meth c C H locs A hP hS hL) (fun q => kf q p e s m args below meth c C H locs A hP hS hL)
theorem wx_if_ne {x : Int32} {off : Int} {tgt : Nat} (hd : decode M.2.1 pc = .ok (.ifCond .ne off, 3)) (ht : (pc : Int) + off = (tgt : Int)) (kt : ¬ x = 0 → WX l D base z M sh tgt ls st h Q) (kf : x = 0 → WX l D base z M sh (pc + 3) ls st h Q) : WX l D base z M sh pc ls (.int x :: st) h Q :=
  fun p e s m args below meth c C H locs A hP hS hL => lv_if_ne C.1 C.2.1 hd ht (fun q => kt q p e s m args below meth c C H locs A hP hS hL) (fun q => kf q p e s m args below meth c C H locs A hP hS hL)
theorem wx_icmp_ne {x y : Int32} {off : Int} {tgt : Nat} (hd : decode M.2.1 pc = .ok (.if_icmp .ne off, 3)) (ht : (pc : Int) + off = (tgt : Int)) (kt : ¬ x = y → WX l D base z M sh tgt ls st h Q) (kf : x = y → WX l D base z M sh (pc + 3) ls st h Q) : WX l D base z M sh pc ls (.int y :: .int x :: st) h Q :=
  fun p e s m args below meth c C H locs A hP hS hL => lv_icmp_ne C.1 C.2.1 hd ht (fun q => kt q p e s m args below meth c C H locs A hP hS hL) (fun q => kf q p e s m args below meth c C H locs A hP hS hL)
theorem wx_if_lt {x : Int32} {off : Int} {tgt : Nat} (hd : decode M.2.1 pc = .ok (.ifCond .lt off, 3)) (ht : (pc : Int) + off = (tgt : Int)) (kt : x < 0 → WX l D base z M sh tgt ls st h Q) (kf : ¬ x < 0 → WX l D base z M sh (pc + 3) ls st h Q) : WX l D base z M sh pc ls (.int x :: st) h Q :=
  fun p e s m args below meth c C H locs A hP hS hL => lv_if_lt C.1 C.2.1 hd ht (fun q => kt q p e s m args below meth c C H locs A hP hS hL) (fun q => kf q p e s m args below meth c C H locs A hP hS hL)
theorem wx_icmp_lt {x y : Int32} {off : Int} {tgt : Nat} (hd : decode M.2.1 pc = .ok (.if_icmp .lt off, 3)) (ht : (pc : Int) + off = (tgt : Int)) (kt : x < y → WX l D base z M sh tgt ls st h Q) (kf : ¬ x < y → WX l D base z M sh (pc + 3) ls st h Q) : WX l D base z M sh pc ls (.int y :: .int x :: st) h Q :=
  fun p e s m args below meth c C H locs A hP hS hL => lv_icmp_lt C.1 C.2.1 hd ht (fun q => kt q p e s m args below meth c C H locs A hP hS hL) (fun q => kf q p e s m args below meth c C H locs A hP hS hL)
theorem wx_if_ge {x : Int32} {off : Int} {tgt : Nat} (hd : decode M.2.1 pc = .ok (.ifCond .ge off, 3)) (ht : (pc : Int) + off = (tgt : Int)) (kt : 0 ≤ x → WX l D base z M sh tgt ls st h Q) (kf : ¬ 0 ≤ x → WX l D base z M sh (pc + 3) ls st h Q) : WX l D base z M sh pc ls (.int x :: st) h Q :=
  fun p e s m args below meth c C H locs A hP hS hL => lv_if_ge C.1 C.2.1 hd ht (fun q => kt q p e s m args below meth c C H locs A hP hS hL) (fun q => kf q p e s m args below meth c C H locs A hP hS hL)
theorem wx_icmp_ge {x y : Int32} {off : Int} {tgt : Nat} (hd : decode M.2.1 pc = .ok (.if_icmp .ge off, 3)) (ht : (pc : Int) + off = (tgt : Int)) (kt : y ≤ x → WX l D base z M sh tgt ls st h Q) (kf : ¬ y ≤ x → WX l D base z M sh (pc + 3) ls st h Q) : WX l D base z M sh pc ls (.int y :: .int x :: st) h Q :=
  fun p e s m args below meth c C H locs A hP hS hL => lv_icmp_ge C.1 C.2.1 hd ht (fun q => kt q p e s m args below meth c C H locs A hP hS hL) (fun q => kf q p e s m args below meth c C H locs A hP hS hL)
theorem wx_if_gt {x : Int32} {off : Int} {tgt : Nat} (hd : decode M.2.1 pc = .ok (.ifCond .gt off, 3)) (ht : (pc : Int) + off = (tgt : Int)) (kt : 0 < x → WX l D base z M sh tgt ls st h Q) (kf : ¬ 0 < x → WX l D base z M sh (pc + 3) ls st h Q) : WX l D base z M sh pc ls (.int x :: st) h Q :=
  fun p e s m args below meth c C H locs A hP hS hL => lv_if_gt C.1 C.2.1 hd ht (fun q => kt q p e s m args below meth c C H locs A hP hS hL) (fun q => kf q p e s m args below meth c C H locs A hP hS hL)
theorem wx_icmp_gt {x y : Int32} {off : Int} {tgt : Nat} (hd : decode M.2.1 pc = .ok (.if_icmp .gt off, 3)) (ht : (pc : Int) + off = (tgt : Int)) (kt : y < x → WX l D base z M sh tgt ls st h Q) (kf : ¬ y < x → WX l D base z M sh (pc + 3) ls st h Q) : WX l D base z M sh pc ls (.int y :: .int x :: st) h Q :=
  fun p e s m args below meth c C H locs A hP hS hL => lv_icmp_gt C.1 C.2.1 hd ht (fun q => kt q p e s m args below meth c C H locs A hP hS hL) (fun q => kf q p e s m args below meth c C H locs A hP hS hL)
theorem wx_if_le {x : Int32} {off : Int} {tgt : Nat} (hd : decode M.2.1 pc = .ok (.ifCond .le off, 3)) (ht : (pc : Int) + off = (tgt : Int)) (kt : x ≤ 0 → WX l D base z M sh tgt ls st h Q) (kf : ¬ x ≤ 0 → WX l D base z M sh (pc + 3) ls st h Q) : WX l D base z M sh pc ls (.int x :: st) h Q :=
  fun p e s m args below meth c C H locs A hP hS hL => lv_if_le C.1 C.2.1 hd ht (fun q => kt q p e s m args below meth c C H locs A hP hS hL) (fun q => kf q p e s m args below meth c C H locs A hP hS hL)
theorem wx_icmp_le {x y : Int32} {off : Int} {tgt : Nat} (hd : decode M.2.1 pc = .ok (.if_icmp .le off, 3)) (ht : (pc : Int) + off = (tgt : Int)) (kt : x ≤ y → WX l D base z M sh tgt ls st h Q) (kf : ¬ x ≤ y → WX l D base z M sh (pc + 3) ls st h Q) : WX l D base z M sh pc ls (.int y :: .int x :: st) h Q :=
  fun p e s m args below meth c C H locs A hP hS hL => lv_icmp_le C.1 C.2.1 hd ht (fun q => kt q p e s m args below meth c C H locs A hP hS hL) (fun q => kf q p e s m args below meth c C H locs A hP hS hL)
theorem wx_goto {off : Int} {tgt : Nat} (hd : decode M.2.1 pc = .ok (.goto off, 3)) (ht : (pc : Int) + off = (tgt : Int)) (k : WX l D base z M sh tgt ls st h Q) : WX l D base z M sh pc ls st h Q :=
  fun p e s m args below meth c C H locs A hP hS hL => lv_goto C.1 C.2.1 hd ht (k p e s m args below meth c C H locs A hP hS hL)
theorem wx_ifnull {x : Nat} {off : Int} (hd : decode M.2.1 pc = .ok (.ifnull off, 3)) (k : WX l D base z M sh (pc + 3) ls st h Q) : WX l D base z M sh pc ls (.ref x :: st) h Q :=
  fun p e s m args below meth c C H locs A hP hS hL => lv_ifnull C.1 C.2.1 hd (k p e s m args below meth c C H locs A hP hS hL)
theorem wx_ldcw {idx : Nat} {v : Int32} (hd : decode M.2.1 pc = .ok (.ldc_w idx, 3)) (hw : Cond.constant M.1.cls idx v ∈ lw_gt) (k : WX l D base z M sh (pc + 3) ls (.int v :: st) h Q) : WX l D base z M sh pc ls st h Q :=
  fun p e s m args below meth c C H locs A hP hS hL => lv_ldcw C.1 C.2.1 C.2.2.2.2.1 (C.2.2.2.2.2.1 _ hw) hd (k p e s m args below meth c C H locs A hP hS hL)
theorem wx_ldc2 {idx : Nat} {v : Int64} (hd : decode M.2.1 pc = .ok (.ldc2_w idx, 3)) (hw : Cond.constantLong M.1.cls idx v ∈ lw_gt) (k : WX l D base z M sh (pc + 3) ls (.long v :: st) h Q) : WX l D base z M sh pc ls st h Q :=
  fun p e s m args below meth c C H locs A hP hS hL => lv_ldc2 C.1 C.2.1 C.2.2.2.2.1 (C.2.2.2.2.2.1 _ hw) hd (k p e s m args below meth c C H locs A hP hS hL)
theorem wx_tabOut {dflt lo hi : Int} {offs : Array Int} {len : Nat} {x : Int32} {tgt : Nat} (hd : decode M.2.1 pc = .ok (.tableswitch dflt lo hi offs, len)) (hx : x.toInt < lo ∨ hi < x.toInt) (ht : (pc : Int) + dflt = (tgt : Int)) (k : WX l D base z M sh tgt ls st h Q) : WX l D base z M sh pc ls (.int x :: st) h Q :=
  fun p e s m args below meth c C H locs A hP hS hL => lv_tableOut C.1 C.2.1 hd hx ht (k p e s m args below meth c C H locs A hP hS hL)
theorem wx_tabIn {dflt lo hi : Int} {offs : Array Int} {len : Nat} {x : Int32} {off : Int} {tgt : Nat} (hd : decode M.2.1 pc = .ok (.tableswitch dflt lo hi offs, len)) (h1 : ¬ x.toInt < lo) (h2 : ¬ hi < x.toInt) (ho : offs[(x.toInt - lo).toNat]? = some off) (ht : (pc : Int) + off = (tgt : Int)) (k : WX l D base z M sh tgt ls st h Q) : WX l D base z M sh pc ls (.int x :: st) h Q :=
  fun p e s m args below meth c C H locs A hP hS hL => lv_tableIn C.1 C.2.1 hd h1 h2 ho ht (k p e s m args below meth c C H locs A hP hS hL)
theorem wx_iret {v : Int32} (hd : decode M.2.1 pc = .ok (.ireturn, 1)) (hr : M.2.2.2.1 = some .int)  (hz : sh.length - z.1 ≤ M.2.2.2.2.cells ∧ szs sh - z.2 ≤ M.2.2.2.2.slots) (hq : Q sh h (some (.int v))) : WX l D base z M sh pc ls ([.int v]) h Q :=
  fun p e s m args below meth c C H locs A hP hS hL => W.widen hz.1 hz.2 (W.iret C.1 C.2.1 (by rw [C.2.2.1]; exact hr)  (fun t ht hW => ⟨sh, h, some (.int v), rfl, hq, by rw [ht]; exact hP, hS.F ht⟩) hS.2.2 hd C.2.2.2.2.2.2.1)
theorem wx_zret {v : Int32} (hd : decode M.2.1 pc = .ok (.ireturn, 1)) (hr : M.2.2.2.1 = some .boolean) (hn : narrow .boolean (.int v) = .int v) (hz : sh.length - z.1 ≤ M.2.2.2.2.cells ∧ szs sh - z.2 ≤ M.2.2.2.2.slots) (hq : Q sh h (some (.int v))) : WX l D base z M sh pc ls ([.int v]) h Q :=
  fun p e s m args below meth c C H locs A hP hS hL => W.widen hz.1 hz.2 (W.zret C.1 C.2.1 (by rw [C.2.2.1]; exact hr) hn (fun t ht hW => ⟨sh, h, some (.int v), rfl, hq, by rw [ht]; exact hP, hS.F ht⟩) hS.2.2 hd C.2.2.2.2.2.2.1)
theorem wx_lret {v : Int64} (hd : decode M.2.1 pc = .ok (.lreturn, 1)) (hr : M.2.2.2.1 = some .long)  (hz : sh.length - z.1 ≤ M.2.2.2.2.cells ∧ szs sh - z.2 ≤ M.2.2.2.2.slots) (hq : Q sh h (some (.long v))) : WX l D base z M sh pc ls ([.long v]) h Q :=
  fun p e s m args below meth c C H locs A hP hS hL => W.widen hz.1 hz.2 (W.lret C.1 C.2.1 (by rw [C.2.2.1]; exact hr)  (fun t ht hW => ⟨sh, h, some (.long v), rfl, hq, by rw [ht]; exact hP, hS.F ht⟩) hS.2.2 hd C.2.2.2.2.2.2.1)
theorem wx_vret  (hd : decode M.2.1 pc = .ok (.return_, 1)) (hr : M.2.2.2.1 = none)  (hz : sh.length - z.1 ≤ M.2.2.2.2.cells ∧ szs sh - z.2 ≤ M.2.2.2.2.slots) (hq : Q sh h (none)) : WX l D base z M sh pc ls ([]) h Q :=
  fun p e s m args below meth c C H locs A hP hS hL => W.widen hz.1 hz.2 (W.vret C.1 C.2.1 (by rw [C.2.2.1]; exact hr)  (fun t ht hW => ⟨sh, h, none, rfl, hq, by rw [ht]; exact hP, hS.F ht⟩) hS.2.2 hd C.2.2.2.2.2.2.1)
end WXR

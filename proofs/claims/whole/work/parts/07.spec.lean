def SH : List Sh := [.inr (2, [(2, some 1), (0, none), (2, some 2), (2, some 10), (2, some 18), (2, some 19), (0, none), (2, some 34), (2, some 37), (2, some 38), (2, some 39), (2, some 40), (0, none), (2, some 41), (1, none)]),
  .inl (0, 56),
  .inr (0, [(2, some 3), (2, some 4), (2, some 5), (2, some 6), (2, some 7), (2, some 8), (0, none), (0, none), (0, none), (0, none), (0, none), (2, some 9)]),
  .inl (0, 5),
  .inl (0, 5),
  .inl (0, 5),
  .inl (0, 5),
  .inl (0, 6),
  .inl (0, 6),
  .inl (0, 5),
  .inr (0, [(2, some 11), (2, some 12), (2, some 13), (2, some 14), (2, some 15), (2, some 16), (0, none), (0, none), (0, none), (0, none), (0, none), (2, some 17)]),
  .inl (0, 5),
  .inl (0, 5),
  .inl (0, 5),
  .inl (0, 5),
  .inl (0, 6),
  .inl (0, 6),
  .inl (0, 5),
  .inr (1, [(0, none), (0, none), (0, none)]),
  .inl (2, 14),
  .inl (0, 19),
  .inl (0, 19),
  .inl (0, 19),
  .inl (0, 19),
  .inl (0, 19),
  .inl (0, 19),
  .inl (0, 19),
  .inl (0, 19),
  .inl (0, 19),
  .inl (0, 19),
  .inl (0, 19),
  .inl (0, 19),
  .inl (0, 19),
  .inl (0, 19),
  .inl (2, 2),
  .inl (0, 19),
  .inl (0, 19),
  .inl (1, 2),
  .inl (0, 6),
  .inl (0, 6),
  .inl (0, 6),
  .inl (0, 32),
  .inr (3, [(0, none), (2, some 43), (0, none), (0, none), (0, none), (2, some 44), (0, none), (2, some 45), (0, none), (0, none), (0, none), (2, some 46), (0, none), (2, some 47), (2, some 48), (2, some 49), (2, some 50), (0, none), (2, some 51), (2, some 52), (0, none), (2, some 53), (2, some 54), (2, some 55), (1, none), (2, some 56), (2, some 57), (0, none), (0, none), (0, none), (0, none), (0, none), (0, none), (2, some 58), (2, some 59)]),
  .inl (0, 56),
  .inl (0, 5),
  .inl (0, 6),
  .inl (0, 15),
  .inl (0, 12),
  .inl (0, 24),
  .inl (0, 24),
  .inl (0, 336),
  .inl (0, 48),
  .inl (1, 2),
  .inl (0, 6),
  .inl (0, 6),
  .inl (0, 6),
  .inl (0, 6),
  .inl (0, 5),
  .inl (0, 8),
  .inl (0, 32)]
def ZZ : Nat × Nat := (SH.length, szs SH)
theorem zz_c (n : Nat) : SH.length - ZZ.1 + n = n := by show SH.length - SH.length + n = n; rw [Nat.sub_self, Nat.zero_add]
theorem zz_s (n : Nat) : szs SH - ZZ.2 + n = n := by show szs SH - szs SH + n = n; rw [Nat.sub_self, Nat.zero_add]
def WH (l : Launch) (D : va_G) (base : Nat) (M : MI) (pc : Nat) (ls : List (Option Value)) (st : List Value) (h : Hp) (Q : Hp → Option Value → Prop) : Prop := WX l D base ZZ M SH pc ls st h (fun sh' h' r => sh' = SH ∧ Q h' r)
def SP (l : Launch) (D : va_G) (base : Nat) (M : MI) (As : List Value) (h : Hp) (Q : Hp → Option Value → Prop) : Prop := SX l D base M SH As h (fun sh' h' r => sh' = SH ∧ Q h' r)
/-- the method answers r, the cells are then h2 -/
def SD (l : Launch) (D : va_G) (base : Nat) (M : MI) (As : List Value) (h : Hp) (r : Option Value) (h2 : Hp) : Prop := SP l D base M As h (fun h' r' => h' = h2 ∧ r' = r)
/-- the method answers an int, of which P -/
def SI (l : Launch) (D : va_G) (base : Nat) (M : MI) (As : List Value) (h : Hp) (P : Hp → Int32 → Prop) : Prop := SP l D base M As h (fun h' r' => ∃ x, r' = some (.int x) ∧ P h' x)
/-- the method answers nothing, of the cells then P -/
def SV (l : Launch) (D : va_G) (base : Nat) (M : MI) (As : List Value) (h : Hp) (P : Hp → Prop) : Prop := SP l D base M As h (fun h' r' => r' = none ∧ P h')
section SPC
variable {l : Launch} {D : va_G} {base : Nat} {M M' : MI} {pc idx n : Nat} {ls : List (Option Value)} {st rest : List Value} {h h2 : Hp} {Q : Hp → Option Value → Prop} {As : List Value}
theorem SP.of (ls : List (Option Value)) (hy : plainName M.1.cls = true) (hls : lvl base 0 ls = lv_args 0 (As.map (up base))) (hn : (lg_sl (As.map (up base))).length ≤ M.2.2.1) (k : WH l D base M 0 ls [] h Q) : SP l D base M As h Q := SX.of ls hy hls hn k
theorem wh_eq {ls' : List (Option Value)} {st' : List Value} {h' : Hp} (k : WH l D base M pc ls' st' h' Q) (h1 : ls = ls') (h2 : st = st') (h3 : h = h') : WH l D base M pc ls st h Q := wx_eq k h1 h2 h3
theorem SP.cons {Q' : Hp → Option Value → Prop} (hs : SP l D base M As h Q) (hq : ∀ h' r, Q h' r → Q' h' r) : SP l D base M As h Q' := by
  intro p e ha hc hk s m args below hf happ hP hT
  obtain ⟨k, o, h1, h2, h3, ⟨sh', h', r, q1, q2, q3, q4⟩, q5⟩ := hs p e ha hc hk s m args below hf happ hP hT
  exact ⟨k, o, h1, h2, h3, ⟨sh', h', r, q1, ⟨q2.1, hq _ _ q2.2⟩, q3, q4⟩, q5⟩
theorem wh_iret {v : Int32} (hd : decode M.2.1 pc = .ok (.ireturn, 1)) (hr : M.2.2.2.1 = some .int) (hq : Q h (some (.int v))) : WH l D base M pc ls [.int v] h Q := wx_iret hd hr ⟨by rw [← Nat.add_zero (SH.length - ZZ.1), zz_c]; exact Nat.zero_le _, by rw [← Nat.add_zero (szs SH - ZZ.2), zz_s]; exact Nat.zero_le _⟩ ⟨rfl, hq⟩
theorem wh_zret {v : Int32} (hd : decode M.2.1 pc = .ok (.ireturn, 1)) (hr : M.2.2.2.1 = some .boolean) (hn : narrow .boolean (.int v) = .int v) (hq : Q h (some (.int v))) : WH l D base M pc ls [.int v] h Q := wx_zret hd hr hn ⟨by rw [← Nat.add_zero (SH.length - ZZ.1), zz_c]; exact Nat.zero_le _, by rw [← Nat.add_zero (szs SH - ZZ.2), zz_s]; exact Nat.zero_le _⟩ ⟨rfl, hq⟩
theorem wh_lret {v : Int64} (hd : decode M.2.1 pc = .ok (.lreturn, 1)) (hr : M.2.2.2.1 = some .long) (hq : Q h (some (.long v))) : WH l D base M pc ls [.long v] h Q := wx_lret hd hr ⟨by rw [← Nat.add_zero (SH.length - ZZ.1), zz_c]; exact Nat.zero_le _, by rw [← Nat.add_zero (szs SH - ZZ.2), zz_s]; exact Nat.zero_le _⟩ ⟨rfl, hq⟩
theorem wh_vret (hd : decode M.2.1 pc = .ok (.return_, 1)) (hr : M.2.2.2.1 = none) (hq : Q h none) : WH l D base M pc ls [] h Q := wx_vret hd hr ⟨by rw [← Nat.add_zero (SH.length - ZZ.1), zz_c]; exact Nat.zero_le _, by rw [← Nat.add_zero (szs SH - ZZ.2), zz_s]; exact Nat.zero_le _⟩ ⟨rfl, hq⟩
abbrev okR0 (M M' : MI) : Prop := okR M M' ∧ M'.2.2.2.2.cells = 0 ∧ M'.2.2.2.2.slots = 0
theorem wh_callV {b ci : Nat} {q : vw_C} {fl : List (Nat × Option Nat)} {Q' : Hp → Option Value → Prop} (hd : decode M.2.1 pc = .ok (.invokevirtual idx, 3)) (hM : okM M' n) (hR : okR0 M M') (hl : Cond.methodLink M.1.cls idx M'.1 ∈ lw_gt) (hi : Cond.instanceMethod M'.1 ∈ lw_gt) (hs : Cond.selects M'.1.cls M'.1 M'.1 ∈ lw_gt) (hsh : SH[b]? = some (.inr (ci, fl))) (hc : classes[ci]? = some q) (hq : q.1 = M'.1.cls)
    (hsp : SP l D base M' (.ref b :: As) h Q') (hn : As.length = n) (hst : st = As.reverse ++ .ref b :: rest) (hw : (rest.map fun v => v.category).sum ≤ 8)
    (k : ∀ (h' : Hp) (r : Option Value), Q' h' r → WH l D base M (pc + 3) ls (r.toList ++ rest) h' Q) : WH l D base M pc ls st h Q :=
  wx_callVG hd hM hR.1 hl hi hs hsh hc hq hsp hn hst hw ⟨by rw [zz_c, hR.2.1]; exact Nat.zero_le _, by rw [zz_s, hR.2.2]; exact Nat.zero_le _⟩ (fun sh' h' r hq1 => by
    obtain ⟨rfl, hq1⟩ := hq1
    refine ⟨⟨by rw [hR.2.1, Nat.add_zero], by rw [hR.2.2, Nat.add_zero]⟩, k h' r hq1⟩)
theorem wh_callS {Q' : Hp → Option Value → Prop} (hd : decode M.2.1 pc = .ok (.invokestatic idx, 3)) (hM : okM M' n) (hR : okR0 M M') (hl : Cond.methodLink M.1.cls idx M'.1 ∈ lw_gt) (hi : Cond.static M'.1 ∈ lw_gt)
    (hsp : SP l D base M' As h Q') (hn : As.length = n) (hst : st = As.reverse ++ rest) (hw : (rest.map fun v => v.category).sum ≤ 8)
    (k : ∀ (h' : Hp) (r : Option Value), Q' h' r → WH l D base M (pc + 3) ls (r.toList ++ rest) h' Q) : WH l D base M pc ls st h Q :=
  wx_callSG hd hM hR.1 hl hi hsp hn hst hw ⟨by rw [zz_c, hR.2.1]; exact Nat.zero_le _, by rw [zz_s, hR.2.2]; exact Nat.zero_le _⟩ (fun sh' h' r hq1 => by
    obtain ⟨rfl, hq1⟩ := hq1
    refine ⟨⟨by rw [hR.2.1, Nat.add_zero], by rw [hR.2.2, Nat.add_zero]⟩, k h' r hq1⟩)
theorem wh_callN {host : String} {Q' : Hp → Option Value → Prop} (hd : decode M.2.1 pc = .ok (.invokestatic idx, 3)) (hM : okM M' n) (hR : okR0 M M') (hl : ∀ U, KX D U → va_Nw (.methodLinkNest M.1.cls idx M'.1 host) U) (hi : Cond.static M'.1 ∈ lw_gt)
    (hsp : SP l D base M' As h Q') (hn : As.length = n) (hst : st = As.reverse ++ rest) (hw : (rest.map fun v => v.category).sum ≤ 8)
    (k : ∀ (h' : Hp) (r : Option Value), Q' h' r → WH l D base M (pc + 3) ls (r.toList ++ rest) h' Q) : WH l D base M pc ls st h Q :=
  wx_callSN hd hM hR.1 hl hi hsp hn hst hw ⟨by rw [zz_c, hR.2.1]; exact Nat.zero_le _, by rw [zz_s, hR.2.2]; exact Nat.zero_le _⟩ (fun sh' h' r hq1 => by
    obtain ⟨rfl, hq1⟩ := hq1
    refine ⟨⟨by rw [hR.2.1, Nat.add_zero], by rw [hR.2.2, Nat.add_zero]⟩, k h' r hq1⟩)
end SPC
section WHR
variable {l : Launch} {D : va_G} {base : Nat} {M : MI} {pc : Nat} {ls : List (Option Value)} {st : List Value} {h : Hp} {Q : Hp → Option Value → Prop}
theorem wh_iconst {n : Int} {v : Int32} (hd : decode M.2.1 pc = .ok (.iconst n, 1)) (hv : Int32.ofInt n = v) (k : WH l D base M (pc + 1) ls (.int v :: st) h Q) : WH l D base M pc ls (st) h Q := wx_iconst hd hv k
theorem wh_bipush {n : Int} {v : Int32} (hd : decode M.2.1 pc = .ok (.bipush n, 2)) (hv : (Int8.ofInt n).toInt32 = v) (k : WH l D base M (pc + 2) ls (.int v :: st) h Q) : WH l D base M pc ls (st) h Q := wx_bipush hd hv k
theorem wh_sipush {n : Int} {v : Int32} (hd : decode M.2.1 pc = .ok (.sipush n, 3)) (hv : (Int16.ofInt n).toInt32 = v) (k : WH l D base M (pc + 3) ls (.int v :: st) h Q) : WH l D base M pc ls (st) h Q := wx_sipush hd hv k
theorem wh_lconst {n : Fin 2} {v : Int64} (hd : decode M.2.1 pc = .ok (.lconst n, 1)) (hv : Int64.ofNat (n : Nat) = v) (k : WH l D base M (pc + 1) ls (.long v :: st) h Q) : WH l D base M pc ls (st) h Q := wx_lconst hd hv k
theorem wh_iload_n {k : Fin 4} {i : Nat} {x : Int32} (hd : decode M.2.1 pc = .ok (.iload_n k, 1)) (hi : (k : Nat) = i) (hg : lget ls i = some (.int x)) (k2 : WH l D base M (pc + 1) ls (.int x :: st) h Q) : WH l D base M pc ls st h Q := wx_iload_n hd hi hg k2
theorem wh_iload {i : Nat} {x : Int32} (hd : decode M.2.1 pc = .ok (.iload i, 2)) (hg : lget ls i = some (.int x)) (k2 : WH l D base M (pc + 2) ls (.int x :: st) h Q) : WH l D base M pc ls st h Q := wx_iload hd hg k2
theorem wh_lload_n {k : Fin 4} {i : Nat} {x : Int64} (hd : decode M.2.1 pc = .ok (.lload_n k, 1)) (hi : (k : Nat) = i) (hg : lget ls i = some (.long x)) (k2 : WH l D base M (pc + 1) ls (.long x :: st) h Q) : WH l D base M pc ls st h Q := wx_lload_n hd hi hg k2
theorem wh_lload {i : Nat} {x : Int64} (hd : decode M.2.1 pc = .ok (.lload i, 2)) (hg : lget ls i = some (.long x)) (k2 : WH l D base M (pc + 2) ls (.long x :: st) h Q) : WH l D base M pc ls st h Q := wx_lload hd hg k2
theorem wh_aload_n {k : Fin 4} {i : Nat} {x : Nat} (hd : decode M.2.1 pc = .ok (.aload_n k, 1)) (hi : (k : Nat) = i) (hg : lget ls i = some (.ref x)) (k2 : WH l D base M (pc + 1) ls (.ref x :: st) h Q) : WH l D base M pc ls st h Q := wx_aload_n hd hi hg k2
theorem wh_istore_n {k : Fin 4} {i : Nat} {x : Int32} {ls2 : List (Option Value)} (hd : decode M.2.1 pc = .ok (.istore_n k, 1)) (hi : (k : Nat) = i) (hn : i < M.2.2.1) (ho : okst ls i = true) (he : lset ls i (some (.int x)) = ls2) (k2 : WH l D base M (pc + 1) ls2 st h Q) : WH l D base M pc ls (.int x :: st) h Q := wx_istore_n hd hi hn ho he k2
theorem wh_istore {i : Nat} {x : Int32} {ls2 : List (Option Value)} (hd : decode M.2.1 pc = .ok (.istore i, 2)) (hn : i < M.2.2.1) (ho : okst ls i = true) (he : lset ls i (some (.int x)) = ls2) (k2 : WH l D base M (pc + 2) ls2 st h Q) : WH l D base M pc ls (.int x :: st) h Q := wx_istore hd hn ho he k2
theorem wh_astore_n {k : Fin 4} {i : Nat} {x : Nat} {ls2 : List (Option Value)} (hd : decode M.2.1 pc = .ok (.astore_n k, 1)) (hi : (k : Nat) = i) (hn : i < M.2.2.1) (ho : okst ls i = true) (he : lset ls i (some (.ref x)) = ls2) (k2 : WH l D base M (pc + 1) ls2 st h Q) : WH l D base M pc ls (.ref x :: st) h Q := wx_astore_n hd hi hn ho he k2
theorem wh_lstore_n {k : Fin 4} {i : Nat} {x : Int64} {ls2 : List (Option Value)} (hd : decode M.2.1 pc = .ok (.lstore_n k, 1)) (hi : (k : Nat) = i) (hn : i + 1 < M.2.2.1) (ho : okst ls i = true) (he : lset (lset ls i (some (.long x))) (i + 1) none = ls2) (k2 : WH l D base M (pc + 1) ls2 st h Q) : WH l D base M pc ls (.long x :: st) h Q := wx_lstore_n hd hi hn ho he k2
theorem wh_iinc {i : Nat} {n : Int} {x v : Int32} {ls2 : List (Option Value)} (hd : decode M.2.1 pc = .ok (.iinc i n, 3)) (hg : lget ls i = some (.int x)) (hv : x + Int32.ofInt n = v) (hn : i < M.2.2.1) (ho : okst ls i = true) (he : lset ls i (some (.int v)) = ls2) (k2 : WH l D base M (pc + 3) ls2 st h Q) : WH l D base M pc ls st h Q := wx_iinc hd hg hv hn ho he k2
theorem wh_iadd {x y : Int32} (hd : decode M.2.1 pc = .ok (.iadd, 1))  (k : WH l D base M (pc + 1) ls (.int (x + y) :: st) h Q) : WH l D base M pc ls (.int y :: .int x :: st) h Q := wx_iadd hd k
theorem wh_isub {x y : Int32} (hd : decode M.2.1 pc = .ok (.isub, 1))  (k : WH l D base M (pc + 1) ls (.int (x - y) :: st) h Q) : WH l D base M pc ls (.int y :: .int x :: st) h Q := wx_isub hd k
theorem wh_imul {x y : Int32} (hd : decode M.2.1 pc = .ok (.imul, 1))  (k : WH l D base M (pc + 1) ls (.int (x * y) :: st) h Q) : WH l D base M pc ls (.int y :: .int x :: st) h Q := wx_imul hd k
theorem wh_iand {x y : Int32} (hd : decode M.2.1 pc = .ok (.iand, 1))  (k : WH l D base M (pc + 1) ls (.int (x &&& y) :: st) h Q) : WH l D base M pc ls (.int y :: .int x :: st) h Q := wx_iand hd k
theorem wh_ior {x y : Int32} (hd : decode M.2.1 pc = .ok (.ior, 1))  (k : WH l D base M (pc + 1) ls (.int (x ||| y) :: st) h Q) : WH l D base M pc ls (.int y :: .int x :: st) h Q := wx_ior hd k
theorem wh_ixor {x y : Int32} (hd : decode M.2.1 pc = .ok (.ixor, 1))  (k : WH l D base M (pc + 1) ls (.int (x ^^^ y) :: st) h Q) : WH l D base M pc ls (.int y :: .int x :: st) h Q := wx_ixor hd k
theorem wh_ishl {x y : Int32} (hd : decode M.2.1 pc = .ok (.ishl, 1))  (k : WH l D base M (pc + 1) ls (.int (x <<< (y &&& 31)) :: st) h Q) : WH l D base M pc ls (.int y :: .int x :: st) h Q := wx_ishl hd k
theorem wh_ishr {x y : Int32} (hd : decode M.2.1 pc = .ok (.ishr, 1))  (k : WH l D base M (pc + 1) ls (.int (x >>> (y &&& 31)) :: st) h Q) : WH l D base M pc ls (.int y :: .int x :: st) h Q := wx_ishr hd k
theorem wh_iushr {x y : Int32} (hd : decode M.2.1 pc = .ok (.iushr, 1))  (k : WH l D base M (pc + 1) ls (.int (x.toUInt32 >>> (y.toUInt32 &&& Int32.toUInt32 31)).toInt32 :: st) h Q) : WH l D base M pc ls (.int y :: .int x :: st) h Q := wx_iushr hd k
theorem wh_idiv {x y : Int32} (hd : decode M.2.1 pc = .ok (.idiv, 1)) (hne : ¬ y = 0) (k : WH l D base M (pc + 1) ls (.int (x / y) :: st) h Q) : WH l D base M pc ls (.int y :: .int x :: st) h Q := wx_idiv hd hne k
theorem wh_irem {x y : Int32} (hd : decode M.2.1 pc = .ok (.irem, 1)) (hne : ¬ y = 0) (k : WH l D base M (pc + 1) ls (.int (x - x / y * y) :: st) h Q) : WH l D base M pc ls (.int y :: .int x :: st) h Q := wx_irem hd hne k
theorem wh_ineg {x : Int32} (hd : decode M.2.1 pc = .ok (.ineg, 1))  (k : WH l D base M (pc + 1) ls (.int (-x) :: st) h Q) : WH l D base M pc ls (.int x :: st) h Q := wx_ineg hd k
theorem wh_ladd {x y : Int64} (hd : decode M.2.1 pc = .ok (.ladd, 1))  (k : WH l D base M (pc + 1) ls (.long (x + y) :: st) h Q) : WH l D base M pc ls (.long y :: .long x :: st) h Q := wx_ladd hd k
theorem wh_lmul {x y : Int64} (hd : decode M.2.1 pc = .ok (.lmul, 1))  (k : WH l D base M (pc + 1) ls (.long (x * y) :: st) h Q) : WH l D base M pc ls (.long y :: .long x :: st) h Q := wx_lmul hd k
theorem wh_land {x y : Int64} (hd : decode M.2.1 pc = .ok (.land, 1))  (k : WH l D base M (pc + 1) ls (.long (x &&& y) :: st) h Q) : WH l D base M pc ls (.long y :: .long x :: st) h Q := wx_land hd k
theorem wh_lor {x y : Int64} (hd : decode M.2.1 pc = .ok (.lor, 1))  (k : WH l D base M (pc + 1) ls (.long (x ||| y) :: st) h Q) : WH l D base M pc ls (.long y :: .long x :: st) h Q := wx_lor hd k
theorem wh_lrem {x y : Int64} (hd : decode M.2.1 pc = .ok (.lrem, 1)) (hne : ¬ y = 0) (k : WH l D base M (pc + 1) ls (.long (x - x / y * y) :: st) h Q) : WH l D base M pc ls (.long y :: .long x :: st) h Q := wx_lrem hd hne k
theorem wh_lushr {x : Int64} {y : Int32} (hd : decode M.2.1 pc = .ok (.lushr, 1))  (k : WH l D base M (pc + 1) ls (.long (x.toUInt64 >>> (y.toInt64.toUInt64 &&& Int64.toUInt64 63)).toInt64 :: st) h Q) : WH l D base M pc ls (.int y :: .long x :: st) h Q := wx_lushr hd k
theorem wh_lshl {x : Int64} {y : Int32} (hd : decode M.2.1 pc = .ok (.lshl, 1))  (k : WH l D base M (pc + 1) ls (.long (x <<< (y.toInt64 &&& 63)) :: st) h Q) : WH l D base M pc ls (.int y :: .long x :: st) h Q := wx_lshl hd k
theorem wh_i2l {x : Int32} (hd : decode M.2.1 pc = .ok (.i2l, 1))  (k : WH l D base M (pc + 1) ls (.long x.toInt64 :: st) h Q) : WH l D base M pc ls (.int x :: st) h Q := wx_i2l hd k
theorem wh_l2i {x : Int64} (hd : decode M.2.1 pc = .ok (.l2i, 1))  (k : WH l D base M (pc + 1) ls (.int x.toInt32 :: st) h Q) : WH l D base M pc ls (.long x :: st) h Q := wx_l2i hd k
theorem wh_lcmp {x y : Int64} (hd : decode M.2.1 pc = .ok (.lcmp, 1))  (k : WH l D base M (pc + 1) ls (.int (lg_cmp x y) :: st) h Q) : WH l D base M pc ls (.long y :: .long x :: st) h Q := wx_lcmp hd k
theorem wh_dup {va : Value} (hd : decode M.2.1 pc = .ok (.dup, 1)) (h1 : va.category = 1) (k : WH l D base M (pc + 1) ls (va :: va :: st) h Q) : WH l D base M pc ls (va :: st) h Q := wx_dup hd h1 k
theorem wh_pop {va : Value} (hd : decode M.2.1 pc = .ok (.pop, 1)) (h1 : va.category = 1) (k : WH l D base M (pc + 1) ls (st) h Q) : WH l D base M pc ls (va :: st) h Q := wx_pop hd h1 k
theorem wh_dup2 {va vb : Value} (hd : decode M.2.1 pc = .ok (.dup2, 1)) (h1 : va.category = 1) (h2 : vb.category = 1) (k : WH l D base M (pc + 1) ls (va :: vb :: va :: vb :: st) h Q) : WH l D base M pc ls (va :: vb :: st) h Q := wx_dup2 hd h1 h2 k
theorem wh_if_eq {x : Int32} {off : Int} {tgt : Nat} (hd : decode M.2.1 pc = .ok (.ifCond .eq off, 3)) (ht : (pc : Int) + off = (tgt : Int)) (kt : x = 0 → WH l D base M tgt ls st h Q) (kf : ¬ x = 0 → WH l D base M (pc + 3) ls st h Q) : WH l D base M pc ls (.int x :: st) h Q := wx_if_eq hd ht kt kf
theorem wh_icmp_eq {x y : Int32} {off : Int} {tgt : Nat} (hd : decode M.2.1 pc = .ok (.if_icmp .eq off, 3)) (ht : (pc : Int) + off = (tgt : Int)) (kt : x = y → WH l D base M tgt ls st h Q) (kf : ¬ x = y → WH l D base M (pc + 3) ls st h Q) : WH l D base M pc ls (.int y :: .int x :: st) h Q := wx_icmp_eq hd ht kt kf
theorem wh_if_ne {x : Int32} {off : Int} {tgt : Nat} (hd : decode M.2.1 pc = .ok (.ifCond .ne off, 3)) (ht : (pc : Int) + off = (tgt : Int)) (kt : ¬ x = 0 → WH l D base M tgt ls st h Q) (kf : x = 0 → WH l D base M (pc + 3) ls st h Q) : WH l D base M pc ls (.int x :: st) h Q := wx_if_ne hd ht kt kf
theorem wh_icmp_ne {x y : Int32} {off : Int} {tgt : Nat} (hd : decode M.2.1 pc = .ok (.if_icmp .ne off, 3)) (ht : (pc : Int) + off = (tgt : Int)) (kt : ¬ x = y → WH l D base M tgt ls st h Q) (kf : x = y → WH l D base M (pc + 3) ls st h Q) : WH l D base M pc ls (.int y :: .int x :: st) h Q := wx_icmp_ne hd ht kt kf
theorem wh_if_lt {x : Int32} {off : Int} {tgt : Nat} (hd : decode M.2.1 pc = .ok (.ifCond .lt off, 3)) (ht : (pc : Int) + off = (tgt : Int)) (kt : x < 0 → WH l D base M tgt ls st h Q) (kf : ¬ x < 0 → WH l D base M (pc + 3) ls st h Q) : WH l D base M pc ls (.int x :: st) h Q := wx_if_lt hd ht kt kf
theorem wh_icmp_lt {x y : Int32} {off : Int} {tgt : Nat} (hd : decode M.2.1 pc = .ok (.if_icmp .lt off, 3)) (ht : (pc : Int) + off = (tgt : Int)) (kt : x < y → WH l D base M tgt ls st h Q) (kf : ¬ x < y → WH l D base M (pc + 3) ls st h Q) : WH l D base M pc ls (.int y :: .int x :: st) h Q := wx_icmp_lt hd ht kt kf
theorem wh_if_ge {x : Int32} {off : Int} {tgt : Nat} (hd : decode M.2.1 pc = .ok (.ifCond .ge off, 3)) (ht : (pc : Int) + off = (tgt : Int)) (kt : 0 ≤ x → WH l D base M tgt ls st h Q) (kf : ¬ 0 ≤ x → WH l D base M (pc + 3) ls st h Q) : WH l D base M pc ls (.int x :: st) h Q := wx_if_ge hd ht kt kf
theorem wh_icmp_ge {x y : Int32} {off : Int} {tgt : Nat} (hd : decode M.2.1 pc = .ok (.if_icmp .ge off, 3)) (ht : (pc : Int) + off = (tgt : Int)) (kt : y ≤ x → WH l D base M tgt ls st h Q) (kf : ¬ y ≤ x → WH l D base M (pc + 3) ls st h Q) : WH l D base M pc ls (.int y :: .int x :: st) h Q := wx_icmp_ge hd ht kt kf
theorem wh_if_gt {x : Int32} {off : Int} {tgt : Nat} (hd : decode M.2.1 pc = .ok (.ifCond .gt off, 3)) (ht : (pc : Int) + off = (tgt : Int)) (kt : 0 < x → WH l D base M tgt ls st h Q) (kf : ¬ 0 < x → WH l D base M (pc + 3) ls st h Q) : WH l D base M pc ls (.int x :: st) h Q := wx_if_gt hd ht kt kf
theorem wh_icmp_gt {x y : Int32} {off : Int} {tgt : Nat} (hd : decode M.2.1 pc = .ok (.if_icmp .gt off, 3)) (ht : (pc : Int) + off = (tgt : Int)) (kt : y < x → WH l D base M tgt ls st h Q) (kf : ¬ y < x → WH l D base M (pc + 3) ls st h Q) : WH l D base M pc ls (.int y :: .int x :: st) h Q := wx_icmp_gt hd ht kt kf
theorem wh_if_le {x : Int32} {off : Int} {tgt : Nat} (hd : decode M.2.1 pc = .ok (.ifCond .le off, 3)) (ht : (pc : Int) + off = (tgt : Int)) (kt : x ≤ 0 → WH l D base M tgt ls st h Q) (kf : ¬ x ≤ 0 → WH l D base M (pc + 3) ls st h Q) : WH l D base M pc ls (.int x :: st) h Q := wx_if_le hd ht kt kf
theorem wh_icmp_le {x y : Int32} {off : Int} {tgt : Nat} (hd : decode M.2.1 pc = .ok (.if_icmp .le off, 3)) (ht : (pc : Int) + off = (tgt : Int)) (kt : x ≤ y → WH l D base M tgt ls st h Q) (kf : ¬ x ≤ y → WH l D base M (pc + 3) ls st h Q) : WH l D base M pc ls (.int y :: .int x :: st) h Q := wx_icmp_le hd ht kt kf
theorem wh_goto {off : Int} {tgt : Nat} (hd : decode M.2.1 pc = .ok (.goto off, 3)) (ht : (pc : Int) + off = (tgt : Int)) (k : WH l D base M tgt ls st h Q) : WH l D base M pc ls st h Q := wx_goto hd ht k
theorem wh_ifnull {x : Nat} {off : Int} (hd : decode M.2.1 pc = .ok (.ifnull off, 3)) (k : WH l D base M (pc + 3) ls st h Q) : WH l D base M pc ls (.ref x :: st) h Q := wx_ifnull hd k
theorem wh_ldcw {idx : Nat} {v : Int32} (hd : decode M.2.1 pc = .ok (.ldc_w idx, 3)) (hw : Cond.constant M.1.cls idx v ∈ lw_gt) (k : WH l D base M (pc + 3) ls (.int v :: st) h Q) : WH l D base M pc ls st h Q := wx_ldcw hd hw k
theorem wh_ldc2 {idx : Nat} {v : Int64} (hd : decode M.2.1 pc = .ok (.ldc2_w idx, 3)) (hw : Cond.constantLong M.1.cls idx v ∈ lw_gt) (k : WH l D base M (pc + 3) ls (.long v :: st) h Q) : WH l D base M pc ls st h Q := wx_ldc2 hd hw k
theorem wh_tabOut {dflt lo hi : Int} {offs : Array Int} {len : Nat} {x : Int32} {tgt : Nat} (hd : decode M.2.1 pc = .ok (.tableswitch dflt lo hi offs, len)) (hx : x.toInt < lo ∨ hi < x.toInt) (ht : (pc : Int) + dflt = (tgt : Int)) (k : WH l D base M tgt ls st h Q) : WH l D base M pc ls (.int x :: st) h Q := wx_tabOut hd hx ht k
theorem wh_tabIn {dflt lo hi : Int} {offs : Array Int} {len : Nat} {x : Int32} {off : Int} {tgt : Nat} (hd : decode M.2.1 pc = .ok (.tableswitch dflt lo hi offs, len)) (h1 : ¬ x.toInt < lo) (h2 : ¬ hi < x.toInt) (ho : offs[(x.toInt - lo).toNat]? = some off) (ht : (pc : Int) + off = (tgt : Int)) (k : WH l D base M tgt ls st h Q) : WH l D base M pc ls (.int x :: st) h Q := wx_tabIn hd h1 h2 ho ht k
theorem wh_iald {a n : Nat} {i : Int32} (hd : decode M.2.1 pc = .ok (.iaload, 1)) (hsh : SH[a]? = some (.inl (0, n))) (hi : vp_in i n) (kk : WH l D base M (pc + 1) ls (.int (gI h a i.toNatClampNeg) :: st) h Q) : WH l D base M pc ls (.int i :: .ref a :: st) h Q := wx_iald hd hsh hi kk
theorem wh_bald {a n : Nat} {i : Int32} (hd : decode M.2.1 pc = .ok (.baload, 1)) (hsh : SH[a]? = some (.inl (1, n))) (hi : vp_in i n) (kk : WH l D base M (pc + 1) ls (.int (gI h a i.toNatClampNeg) :: st) h Q) : WH l D base M pc ls (.int i :: .ref a :: st) h Q := wx_bald hd hsh hi kk
theorem wh_alen {a n : Nat} (hd : decode M.2.1 pc = .ok (.arraylength, 1)) (hsh : SH[a]? = some (.inl (0, n))) (kk : WH l D base M (pc + 1) ls (.int (Int32.ofNat n) :: st) h Q) : WH l D base M pc ls (.ref a :: st) h Q := wx_alen hd hsh kk
theorem wh_iast {a n : Nat} {i v : Int32} (hd : decode M.2.1 pc = .ok (.iastore, 1)) (hsh : SH[a]? = some (.inl (0, n))) (hi : vp_in i n) (kk : WH l D base M (pc + 1) ls st (sI h a i.toNatClampNeg v) Q) : WH l D base M pc ls (.int v :: .int i :: .ref a :: st) h Q := wx_iast hd hsh hi kk
theorem wh_bast {a n : Nat} {i v : Int32} (hd : decode M.2.1 pc = .ok (.bastore, 1)) (hsh : SH[a]? = some (.inl (1, n))) (hi : vp_in i n) (hv : vp_nar .boolean v = v) (kk : WH l D base M (pc + 1) ls st (sI h a i.toNatClampNeg v) Q) : WH l D base M pc ls (.int v :: .int i :: .ref a :: st) h Q := wx_bast hd hsh hi hv kk
theorem wh_aald {a n r : Nat} {i : Int32} (hd : decode M.2.1 pc = .ok (.aaload, 1)) (hsh : SH[a]? = some (.inl (2, n))) (hi : vp_in i n) (hr : gR h a i.toNatClampNeg = some r) (kk : WH l D base M (pc + 1) ls (.ref r :: st) h Q) : WH l D base M pc ls (.int i :: .ref a :: st) h Q := wx_aald hd hsh hi hr kk
theorem wh_aast {a n r k : Nat} {i : Int32} (hd : decode M.2.1 pc = .ok (.aastore, 1)) (hsh : SH[a]? = some (.inl (2, n))) (hr : SH[r]? = some (.inl (0, k))) (hi : vp_in i n) (kk : WH l D base M (pc + 1) ls st (sR h a i.toNatClampNeg (some r)) Q) : WH l D base M pc ls (.ref r :: .int i :: .ref a :: st) h Q := wx_aast hd hsh hr hi kk
end WHR

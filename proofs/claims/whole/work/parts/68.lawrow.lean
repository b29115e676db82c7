def R_law : String := "LampMothsLaw"
def lw_P (b : Addr) (xs : List Int32) (args : Array Value) (s : State) : Prop := args = #[.ref b] ∧ s.IntsAt b xs ∧ xs.length ≤ 256 ∧ (Jvm.Cond.and given_1 narrow_1).before args s = true
def lw_Q (_ : Array Value) (s : State) (o : Outcome) (t : State) : Prop := o = .returned (some (.int 1)) ∧ Framed s o t [] 600000 7302250
def lw_Z (below : List Frame) (a : Array Value) (s : State) : State → Prop := fun t => ∃ o, t.status = .running ∧ Ended t below o ∧ lw_Q a s o t
/-- the law's own end, with 1 on the stack, nothing written that was there before, its room as the claim has it -/
theorem lw_ret {p : Program} {l : Launch} {e : Env} {s : State} {m : MethodId} {below : List Frame} {meth : Method} {c : Code} {b : Nat} (hx : p.tables.exec = Jvm.exec) (hb : c.code = code) (hr : meth.sig.returnType = ret) (hlocks : meth.locks = false) {pc : Nat} {H : Heap} {ls : Array Slot} (hdg : decode code pc = .ok (.ireturn, 1)) : W p l e room_1 s m #[Value.ref b] below meth c H [] 600000 7302250 (lw_Z below #[Value.ref b] s) (F0 m pc ls [.int 1]) := by
  intro T hT X
  obtain ⟨fs, hret, hrun, hended, hW, hframe⟩ := X.leave (v := some (.int 1)) (hlocks := hlocks) (fun h => by rw [hr] at h; cases h)
  have hmeth' : T.vm.method? m = some meth := X.method'
  refine ⟨T.setFrames fs, ?_, .returned (some (.int 1)), hrun, hended, rfl, ⟨_, rfl⟩, hW, hframe⟩
  jvm_step X.here [X.here.top, hx, hb, hdg, hmeth', hr, ret, narrow_b1]
  (try refine ⟨rfl, ?_⟩); (try refine ⟨rfl, ?_⟩)
  first | (intro acts; rw [hret _ acts rfl rfl rfl]) | rw [hret _ _ rfl rfl rfl]
  exact Steps.refl _
/-- what holds at the law's entry: the machine, the code, the tables' words (any of lw_tbl by 'hts w (by decide +kernel)'), the script of L ints xs at the cell b, what the Statement gives of the start (any of its parts by flat_of_before) -/
def lw_At (p : Program) (s : State) (m : MethodId) (meth : Method) (c : Code) (b L : Nat) (xs : Nat → Int32) : Prop :=
  p.tables.exec = Jvm.exec ∧ c.code = code ∧ meth.sig.returnType = ret ∧ c.maxLocals = 4 ∧ s.vm.findClass R_law = some m.cls ∧ (∀ w ∈ lw_tbl, w.before #[Value.ref b] s = true) ∧ va_X b L xs s s.heap ∧ b < s.heap.size ∧ meth.locks = false ∧ (Jvm.Cond.and given_1 narrow_1).before #[Value.ref b] s = true
/-! the law's own walk: the script's cell b below base, the system's cells from base on -/
def M_law : MI := (x, code, 4, ret, room_1)
/-- what holds all through the law's walk -/
def CL (D : va_G) (base b L : Nat) (xs : Nat → Int32) (p : Program) (s : State) (m : MethodId) (meth : Method) (c : Code) : Prop :=
  p.tables.exec = Jvm.exec ∧ c.code = code ∧ meth.sig.returnType = ret ∧ c.maxLocals = 4 ∧ s.vm.findClass R_law = some m.cls ∧ (∀ w ∈ lw_gt, w.before #[Value.ref b] s = true) ∧ meth.locks = false ∧ KX D s ∧ s.heap.size = base ∧ va_X b L xs s s.heap ∧ b < s.heap.size
def WQ (l : Launch) (D : va_G) (base b L : Nat) (xs : Nat → Int32) (sh : List Sh) (pc : Nat) (lv : List (Nat × Value)) (st : List Value) (h : Hp) : Prop :=
  ∀ (p : Program) (e : Env) (s : State) (m : MethodId) (below : List Frame) (meth : Method) (c : Code), CL D base b L xs p s m meth c → ∀ (H : Heap) (locs : List Loc) (A : Array Slot), PX D base sh h H → va_S (fun q => base ≤ q) s.heap H locs → lv_has A 4 lv →
    W p l e room_1 s m #[Value.ref b] below meth c H locs sh.length (szs sh) (lw_Z below #[Value.ref b] s) (F0 m pc A st)
theorem CL.bA {D : va_G} {base b L : Nat} {xs : Nat → Int32} {p : Program} {s : State} {m : MethodId} {meth : Method} {c : Code} (C : CL D base b L xs p s m meth c) : ¬ (fun q : Nat => base ≤ q) b := by
  have h1 := C.2.2.2.2.2.2.2.2.1
  have h2 := C.2.2.2.2.2.2.2.2.2.2
  show ¬ base ≤ b
  omega
section LAWR
variable {l : Launch} {D : va_G} {base b L : Nat} {xs : Nat → Int32} {sh sh2 : List Sh} {pc : Nat} {lv lv2 : List (Nat × Value)} {st rest : List Value} {h : Hp} {i : Int32}
theorem wq_newO {idx a ci N : Nat} {C : String} {T : u_T} {fl : List (Nat × Option Nat)} (hd : decode code pc = .ok (.new idx, 3)) (hc : classes[ci]? = some (C, T, N)) (hin : ∀ w ∈ u_ws C T N, w ∈ lw_gt) (ty0 : Nat → FieldType) (hty : ∀ k, k < N → parseFieldDescriptor (T k).2.2.1 = some (ty0 k)) (hcl : Cond.classLink R_law idx C ∈ lw_gt) (hinst : Cond.instantiable C N ∈ lw_gt) (hini : Cond.initialized C ∈ lw_gt) (ha : sh.length = a) (hs2 : sh ++ ([.inr (ci, fl)] : List Sh) = sh2) (hfl : fl.length = N) (hcc : sh.length + 1 ≤ room_1.cells) (hs : szs sh + N ≤ room_1.slots) (h0 : ∀ b, fvs b h a 0 fl = (List.range N).map (fun j => defaultValue (ty0 j)))
    (k : WQ l D base b L xs sh2 (pc + 3) lv (.ref (base + a) :: st) h) : WQ l D base b L xs sh pc lv st h := by
  intro p e s m below meth c C0 H locs A hP hS hL
  subst ha; subst hs2; subst hfl
  have hKn := C0.2.2.2.2.2.2.2.1.1.1 ci _ hc
  refine W.newcK C0.1 C0.2.1 C0.2.2.2.2.1 (C0.2.2.2.2.2.1 _ hcl) (C0.2.2.2.2.2.1 _ hinst) (C0.2.2.2.2.2.1 _ hini) rfl hd hcc hs hKn.2.1 hP.1 (fun H1 kC hkC e1 z1 o1 => ?_)
  have hP1 : PX D base (sh ++ ([.inr (ci, fl)] : List Sh)) h H1 := PX_one hP z1 o1 ⟨_, hc, (u_born ty0 (fun w hw => C0.2.2.2.2.2.1 w hw) hin hKn hkC e1 hty).to (fs_def (h0 base))⟩
  have k1 := k p e s m below meth c C0 H1 locs A hP1 (S_new hS hP.1 z1 o1) hL
  have E1 : (sh ++ ([.inr (ci, fl)] : List Sh)).length = sh.length + 1 := by rw [List.length_append]; rfl
  have E2 : szs (sh ++ ([.inr (ci, fl)] : List Sh)) = szs sh + fl.length := by rw [szs_app]; rfl
  rw [E1, E2] at k1
  exact k1
theorem wq_dup {v : Value} (hd : decode code pc = .ok (.dup, 1)) (hv : v.category = 1) (k : WQ l D base b L xs sh (pc + 1) lv (v :: v :: st) h) : WQ l D base b L xs sh pc lv (v :: st) h :=
  fun p e s m below meth c C H locs A hP hS hL => lv_dup C.1 C.2.1 hd hv (k p e s m below meth c C H locs A hP hS hL)
theorem wq_astore {k : Fin 4} {j a : Nat} (hd : decode code pc = .ok (.astore_n k, 1)) (hi : (k : Nat) = j) (hn : j < 4) (hl : (j, Value.ref a) :: lv.filter (fun q => !(q.1 == j) && !(q.1 + 1 == j && q.2.category == 2)) = lv2) (kk : WQ l D base b L xs sh (pc + 1) lv2 st h) : WQ l D base b L xs sh pc lv (.ref a :: st) h :=
  fun p e s m below meth c C H locs A hP hS hL => lv_astore_n C.1 C.2.1 hd hi hL hn hl (fun A2 hL2 => kk p e s m below meth c C H locs A2 hP hS hL2)
theorem wq_iconst {n : Int} {v : Int32} (hd : decode code pc = .ok (.iconst n, 1)) (hv : Int32.ofInt n = v) (k : WQ l D base b L xs sh (pc + 1) lv (.int v :: st) h) : WQ l D base b L xs sh pc lv st h :=
  fun p e s m below meth c C H locs A hP hS hL => lv_iconst C.1 C.2.1 hd hv (k p e s m below meth c C H locs A hP hS hL)
theorem wq_istore {k : Fin 4} {j : Nat} {a : Int32} (hd : decode code pc = .ok (.istore_n k, 1)) (hi : (k : Nat) = j) (hn : j < 4) (hl : (j, Value.int a) :: lv.filter (fun q => !(q.1 == j) && !(q.1 + 1 == j && q.2.category == 2)) = lv2) (kk : WQ l D base b L xs sh (pc + 1) lv2 st h) : WQ l D base b L xs sh pc lv (.int a :: st) h :=
  fun p e s m below meth c C H locs A hP hS hL => lv_istore_n C.1 C.2.1 hd hi hL hn hl (fun A2 hL2 => kk p e s m below meth c C H locs A2 hP hS hL2)
theorem wq_sub (ks : List Nat) (hl : lv_pick lv ks = lv2) (k : WQ l D base b L xs sh pc lv2 st h) : WQ l D base b L xs sh pc lv st h :=
  fun p e s m below meth c C H locs A hP hS hL => k p e s m below meth c C H locs A hP hS (lv_sub hL ks hl)
/-- a constructor without parameters -/
theorem wq_callI {M' : MI} {idx b0 : Nat} {Q' : List Sh → Hp → Option Value → Prop} (hd : decode code pc = .ok (.invokespecial idx, 3)) (hM : okM M' 0) (hR : okR M_law M') (hl : Cond.methodLink R_law idx M'.1 ∈ lw_gt) (hnm : M'.1.name = "<init>") (hret : M'.2.2.2.1 = none) (hi : Cond.instanceMethod M'.1 ∈ lw_gt)
    (hsp : SX l D base M' sh [.ref b0] h Q') (hw : (st.map fun v => v.category).sum ≤ 8) (hf : sh.length + M'.2.2.2.2.cells ≤ room_1.cells ∧ szs sh + M'.2.2.2.2.slots ≤ room_1.slots)
    (k : ∀ (sh' : List Sh) (h' : Hp) (r : Option Value), Q' sh' h' r → (sh.length + M'.2.2.2.2.cells = sh'.length ∧ szs sh + M'.2.2.2.2.slots = szs sh') ∧ r = none ∧ WQ l D base b L xs sh' (pc + 3) lv st h') : WQ l D base b L xs sh pc lv (.ref (base + b0) :: st) h := by
  intro p e s m below meth c C H locs A hP hS hL
  refine W_call (va_runI (b := base + b0) (As := []) (rest := st) ⟨C.1, C.2.1, C.2.2.2.1, C.2.2.2.2.1, fun w hw => C.2.2.2.2.2.1 w hw⟩ hsp ⟨callB_of 0 (ws' := lw_gt) (bytes := M'.2.1) (maxL := M'.2.2.1) (ret := none) (Ts := lw_gt) (fun w hw => C.2.2.2.2.2.1 w hw) (wsM_in hM.1) (by unfold wsM; rw [hret]) rfl rfl (C.2.2.2.2.2.1 _ hM.2.1) (C.2.2.2.2.2.1 _ hl) hM.2.2 hR, hnm, C.2.2.2.2.2.1 _ hi⟩ ⟨fb_pc D base sh h _, fun U hU hW => ⟨rfl, by rw [hU]; exact hP, C.2.2.2.2.2.2.2.1.warm hW⟩⟩ rfl rfl hL.1 rfl (lv_room hw) hd hf) hS (fun sh' h' r H1 locs1 hq1 hP1 hS1 => ?_)
  obtain ⟨⟨e1, e2⟩, e3, k1⟩ := k sh' h' r hq1
  subst e3
  rw [e1, e2]
  exact k1 p e s m below meth c C H1 locs1 A hP1 hS1 hL
def lvL (base b : Nat) (i : Int32) : List (Nat × Value) := [(0, .ref b), (1, .ref (base + 0)), (2, .ref (base + 42)), (3, .int i)]
/-- in the law's loop: both objects stand, i is the place in the script -/
def WL (l : Launch) (D : va_G) (base b L : Nat) (xs : Nat → Int32) (i : Int32) (pc : Nat) (st : List Value) (h : Hp) : Prop := WQ l D base b L xs SH pc (lvL base b i) st h
theorem wl_x (hd : decode code pc = .ok (.aload_n 1, 1)) (k : WL l D base b L xs i (pc + 1) (.ref (base + 0) :: st) h) : WL l D base b L xs i pc st h :=
  fun p e s m below meth c C H locs A hP hS hL => lv_aload_n C.1 C.2.1 hd rfl (lv_at hL 1 rfl) (k p e s m below meth c C H locs A hP hS hL)
theorem wl_m (hd : decode code pc = .ok (.aload_n 2, 1)) (k : WL l D base b L xs i (pc + 1) (.ref (base + 42) :: st) h) : WL l D base b L xs i pc st h :=
  fun p e s m below meth c C H locs A hP hS hL => lv_aload_n C.1 C.2.1 hd rfl (lv_at hL 2 rfl) (k p e s m below meth c C H locs A hP hS hL)
/-- script[i + k] -/
theorem wl_arg {n : Int} {k : Int32} (h0 : decode code pc = .ok (.aload_n 0, 1)) (h1 : decode code (pc + 1) = .ok (.iload_n 3, 1)) (h2 : decode code (pc + 2) = .ok (.iconst n, 1)) (hv : Int32.ofInt n = k) (h3 : decode code (pc + 3) = .ok (.iadd, 1)) (h4 : decode code (pc + 4) = .ok (.iaload, 1)) (hin : vp_in (i + k) L) (kk : WL l D base b L xs i (pc + 5) (.int (xs (i + k).toNatClampNeg) :: st) h) : WL l D base b L xs i pc st h := by
  intro p e s m below meth c C H locs A hP hS hL
  refine lv_aload_n C.1 C.2.1 h0 rfl (lv_at hL 0 rfl) ?_
  refine lv_iload_n (pc := pc + 1) C.1 C.2.1 h1 rfl (lv_at hL 3 rfl) ?_
  refine lv_iconst (pc := pc + 2) C.1 C.2.1 h2 hv ?_
  refine lv_iadd (pc := pc + 3) C.1 C.2.1 h3 ?_
  refine va_sld (pc := pc + 4) C.1 C.2.1 C.2.2.2.2.2.2.2.2.2.1 C.2.2.2.2.2.2.2.2.2.2 C.bA hS hin h4 ?_
  exact kk p e s m below meth c C H locs A hP hS hL
def zI (v : Int32) : Int32 := if v = 0 then 0 else 1
theorem zI_two (v : Int32) : zI v = 0 ∨ zI v = 1 := by
  unfold zI
  by_cases q : v = 0
  · exact Or.inl (if_pos q)
  · exact Or.inr (if_neg q)
/-- .. != 0 -/
theorem wl_bool {v : Int32} (h0 : decode code pc = .ok (.ifCond .eq 7, 3)) (h1 : decode code (pc + 3) = .ok (.iconst 1, 1)) (h2 : decode code (pc + 4) = .ok (.goto 4, 3)) (h3 : decode code (pc + 7) = .ok (.iconst 0, 1)) (kk : WL l D base b L xs i (pc + 8) (.int (zI v) :: st) h) : WL l D base b L xs i pc (.int v :: st) h := by
  intro p e s m below meth c C H locs A hP hS hL
  have k1 := kk p e s m below meth c C H locs A hP hS hL
  refine lv_if_eq (tgt := pc + 7) C.1 C.2.1 h0 (by omega) (fun q => ?_) (fun q => ?_)
  · rw [show zI v = 0 from if_pos q] at k1
    exact lv_iconst (pc := pc + 7) C.1 C.2.1 h3 rfl k1
  · rw [show zI v = 1 from if_neg q] at k1
    refine lv_iconst (pc := pc + 3) (v := 1) C.1 C.2.1 h1 rfl ?_
    exact lv_goto (pc := pc + 4) (tgt := pc + 8) C.1 C.2.1 h2 (by omega) k1
/-- the long out of two ints -/
def sdL (u v : Int32) : Int64 := u.toInt64 <<< ((32 : Int32).toInt64 &&& 63) ||| (v.toInt64 &&& 4294967295)
theorem wl_shl {u : Int32} (h0 : decode code pc = .ok (.i2l, 1)) (h1 : decode code (pc + 1) = .ok (.bipush 32, 2)) (h2 : decode code (pc + 3) = .ok (.lshl, 1)) (kk : WL l D base b L xs i (pc + 4) (.long (u.toInt64 <<< ((32 : Int32).toInt64 &&& 63)) :: st) h) : WL l D base b L xs i pc (.int u :: st) h := by
  intro p e s m below meth c C H locs A hP hS hL
  refine lv_i2l C.1 C.2.1 h0 rfl ?_
  refine lv_bipush (pc := pc + 1) (v := 32) C.1 C.2.1 h1 (by decide) ?_
  exact lv_lshl (pc := pc + 3) C.1 C.2.1 h2 rfl (kk p e s m below meth c C H locs A hP hS hL)
theorem wl_low {v : Int32} {u : Int64} (hw : Cond.constantLong R_law 116 4294967295 ∈ lw_gt) (h0 : decode code pc = .ok (.i2l, 1)) (h1 : decode code (pc + 1) = .ok (.ldc2_w 116, 3)) (h2 : decode code (pc + 4) = .ok (.land, 1)) (h3 : decode code (pc + 5) = .ok (.lor, 1)) (kk : WL l D base b L xs i (pc + 6) (.long (u ||| (v.toInt64 &&& 4294967295)) :: st) h) : WL l D base b L xs i pc (.int v :: .long u :: st) h := by
  intro p e s m below meth c C H locs A hP hS hL
  refine lv_i2l C.1 C.2.1 h0 rfl ?_
  refine lv_ldc2 (pc := pc + 1) C.1 C.2.1 C.2.2.2.2.1 (C.2.2.2.2.2.1 _ hw) h1 ?_
  refine lv_land (pc := pc + 4) C.1 C.2.1 h2 ?_
  exact lv_lor (pc := pc + 5) C.1 C.2.1 h3 (kk p e s m below meth c C H locs A hP hS hL)
theorem wl_call {M' : MI} {idx n b0 ci : Nat} {q : vw_C} {fl : List (Nat × Option Nat)} {As : List Value} {Q' : Hp → Option Value → Prop} (hd : decode code pc = .ok (.invokevirtual idx, 3)) (hM : okM M' n) (hR : okR0 M_law M') (hl : Cond.methodLink R_law idx M'.1 ∈ lw_gt) (hi : Cond.instanceMethod M'.1 ∈ lw_gt) (hs : Cond.selects M'.1.cls M'.1 M'.1 ∈ lw_gt) (hsh : SH[b0]? = some (.inr (ci, fl))) (hc : classes[ci]? = some q) (hq : q.1 = M'.1.cls)
    (hsp : SP l D base M' (.ref b0 :: As) h Q') (hn : As.length = n) (hA : As.map (up base) = As) (hst : st = As.reverse ++ .ref (base + b0) :: rest) (hw : (rest.map fun v => v.category).sum ≤ 8)
    (k : ∀ (h' : Hp) (r : Option Value), Q' h' r → WL l D base b L xs i (pc + 3) ((r.map (up base)).toList ++ rest) h') : WL l D base b L xs i pc st h := by
  intro p e s m below meth c C H locs A hP hS hL
  subst hst
  have hrecv := va_recv C.2.2.2.2.2.2.2.1.1 hP.2 hc (wl_get D base SH h hsh)
  rw [hq] at hrecv
  have hsp' : Met l M'.1 (wsM M') M'.2.2.2.2 (va_Pc (.ref (base + b0) :: As) (fun U => PX D base SH h U.heap ∧ KX D U)) (QX D base (fun sh' h' r => sh' = SH ∧ Q' h' r)) M'.2.2.2.2.cells M'.2.2.2.2.slots (fun q => base ≤ q) := by
    have := hsp
    unfold SP SX at this
    rw [List.map_cons, hA] at this
    exact this
  refine W_call (va_runV (C := M'.1.cls) (As := As) (rest := rest) ⟨C.1, C.2.1, C.2.2.2.1, C.2.2.2.2.1, fun w hw => C.2.2.2.2.2.1 w hw⟩ hsp' ⟨callB_of n (Ts := lw_gt) (fun w hw => C.2.2.2.2.2.1 w hw) (wsM_in hM.1) rfl rfl rfl (C.2.2.2.2.2.1 _ hM.2.1) (C.2.2.2.2.2.1 _ hl) hM.2.2 hR.1, C.2.2.2.2.2.1 _ hi, C.2.2.2.2.2.1 _ hs⟩ ⟨fb_pc D base SH h _, hrecv, fun U hU hW => ⟨rfl, by rw [hU]; exact hP, C.2.2.2.2.2.2.2.1.warm hW⟩⟩ rfl hn hL.1 rfl (lv_room hw) hd ⟨by rw [hR.2.1]; exact Nat.le_of_ble_eq_true rfl, by rw [hR.2.2]; exact Nat.le_of_ble_eq_true rfl⟩) hS (fun sh' h' r H1 locs1 hq1 hP1 hS1 => ?_)
  obtain ⟨e0, hq1⟩ := hq1
  subst e0
  rw [hR.2.1, hR.2.2]
  exact k h' r hq1 p e s m below meth c C H1 locs1 A hP1 hS1 hL
theorem wl_ci {M' : MI} {idx n b0 ci : Nat} {q : vw_C} {fl : List (Nat × Option Nat)} {As : List Value} {P : Hp → Int32 → Prop} (hd : decode code pc = .ok (.invokevirtual idx, 3)) (hM : okM M' n) (hR : okR0 M_law M') (hl : Cond.methodLink R_law idx M'.1 ∈ lw_gt) (hi : Cond.instanceMethod M'.1 ∈ lw_gt) (hs : Cond.selects M'.1.cls M'.1 M'.1 ∈ lw_gt) (hsh : SH[b0]? = some (.inr (ci, fl))) (hc : classes[ci]? = some q) (hq : q.1 = M'.1.cls)
    (hsp : SI l D base M' (.ref b0 :: As) h P) (hn : As.length = n) (hA : As.map (up base) = As) (hst : st = As.reverse ++ .ref (base + b0) :: rest) (hw : (rest.map fun v => v.category).sum ≤ 8)
    (k : ∀ (h' : Hp) (v : Int32), P h' v → WL l D base b L xs i (pc + 3) (.int v :: rest) h') : WL l D base b L xs i pc st h :=
  wl_call hd hM hR hl hi hs hsh hc hq hsp hn hA hst hw (fun h' r e => by
    obtain ⟨v, rfl, hp⟩ := e
    exact k h' v hp)
theorem wl_eq {v : Int32} {off : Int} (hd : decode code pc = .ok (.if_icmp .eq off, 3)) (ht : (pc : Int) + off = ((933 : Nat) : Int)) (k : WL l D base b L xs i 933 st h) : WL l D base b L xs i pc (.int v :: .int v :: st) h :=
  fun p e s m below meth c C H locs A hP hS hL => lv_icmp_eq (tgt := 933) C.1 C.2.1 hd ht (fun _ => k p e s m below meth c C H locs A hP hS hL) (fun q => absurd rfl q)
theorem wl_leq {v : Int64} {off : Int} (hd : decode code pc = .ok (.lcmp, 1)) (hd2 : decode code (pc + 1) = .ok (.ifCond .eq off, 3)) (ht : ((pc + 1 : Nat) : Int) + off = ((933 : Nat) : Int)) (k : WL l D base b L xs i 933 st h) : WL l D base b L xs i pc (.long v :: .long v :: st) h := by
  intro p e s m below meth c C H locs A hP hS hL
  refine W.lcmp C.1 C.2.1 hd ?_
  have e1 : lg_cmp v v = 0 := by simp [lg_cmp]
  rw [e1]
  exact lv_if_eq (pc := pc + 1) (tgt := 933) C.1 C.2.1 hd2 ht (fun _ => k p e s m below meth c C H locs A hP hS hL) (fun q => absurd rfl q)
theorem wl_next (k : WL l D base b L xs (i + 4) 18 [] h) : WL l D base b L xs i 933 [] h := by
  intro p e s m below meth c C H locs A hP hS hL
  refine lv_iinc (pc := 933) (k := 3) (v := i + 4) (lv' := [(3, .int (i + 4)), (0, .ref b), (1, .ref (base + 0)), (2, .ref (base + 42))]) C.1 C.2.1 d_La_law_933 hL rfl rfl (by decide) rfl (fun A2 hL2 => ?_)
  refine lv_goto (pc := 936) (tgt := 18) C.1 C.2.1 d_La_law_936 (by decide) ?_
  exact k p e s m below meth c C H locs A2 hP hS (lv_sub hL2 [1, 2, 3, 0] rfl)
theorem wl_top (kt : Int32.ofNat L - 4 < i → WL l D base b L xs i 939 [] h) (kf : ¬ Int32.ofNat L - 4 < i → WL l D base b L xs i 26 [] h) : WL l D base b L xs i 18 [] h := by
  intro p e s m below meth c C H locs A hP hS hL
  refine lv_iload_n (pc := 18) C.1 C.2.1 d_La_law_18 rfl (lv_at hL 3 rfl) ?_
  refine lv_aload_n (pc := 19) C.1 C.2.1 d_La_law_19 rfl (lv_at hL 0 rfl) ?_
  refine va_slen (pc := 20) C.1 C.2.1 C.2.2.2.2.2.2.2.2.2.1 C.2.2.2.2.2.2.2.2.2.2 C.bA hS d_La_law_20 ?_
  refine lv_iconst (pc := 21) (v := 4) C.1 C.2.1 d_La_law_21 (by decide) ?_
  refine lv_isub (pc := 22) C.1 C.2.1 d_La_law_22 ?_
  exact lv_icmp_gt (pc := 23) (tgt := 939) C.1 C.2.1 d_La_law_23 (by decide) (fun q => kt q p e s m below meth c C H locs A hP hS hL) (fun q => kf q p e s m below meth c C H locs A hP hS hL)
theorem wl_sw (hin : vp_in i L) (k : WL l D base b L xs i 32 [.int (xs i.toNatClampNeg &&& 31)] h) : WL l D base b L xs i 26 [] h := by
  intro p e s m below meth c C H locs A hP hS hL
  refine lv_aload_n (pc := 26) C.1 C.2.1 d_La_law_26 rfl (lv_at hL 0 rfl) ?_
  refine lv_iload_n (pc := 27) C.1 C.2.1 d_La_law_27 rfl (lv_at hL 3 rfl) ?_
  refine va_sld (pc := 28) C.1 C.2.1 C.2.2.2.2.2.2.2.2.2.1 C.2.2.2.2.2.2.2.2.2.2 C.bA hS hin d_La_law_28 ?_
  refine lv_bipush (pc := 29) (v := 31) C.1 C.2.1 d_La_law_29 (by decide) ?_
  exact lv_iand (pc := 31) C.1 C.2.1 d_La_law_31 (k p e s m below meth c C H locs A hP hS hL)
theorem wl_tabIn {v : Int32} {off : Int} {tgt : Nat} (h1 : ¬ v.toInt < 0) (h2 : ¬ 27 < v.toInt) (ho : (#[128, 151, 164, 177, 190, 213, 246, 279, 312, 335, 358, 381, 404, 417, 430, 463, 502, 525, 558, 607, 650, 663, 676, 719, 778, 832, 855, 878] : Array Int)[(v.toInt - 0).toNat]? = some off) (ht : ((32 : Nat) : Int) + off = (tgt : Int)) (k : WL l D base b L xs i tgt [] h) : WL l D base b L xs i 32 [.int v] h :=
  fun p e s m below meth c C H locs A hP hS hL => lv_tableIn (pc := 32) C.1 C.2.1 d_La_law_32 h1 h2 ho ht (k p e s m below meth c C H locs A hP hS hL)
theorem wl_tabOut {v : Int32} (h1 : v.toInt < 0 ∨ 27 < v.toInt) (k : WL l D base b L xs i 933 [] h) : WL l D base b L xs i 32 [.int v] h :=
  fun p e s m below meth c C H locs A hP hS hL => lv_tableOut (pc := 32) (tgt := 933) C.1 C.2.1 d_La_law_32 h1 (by decide) (k p e s m below meth c C H locs A hP hS hL)
theorem wl_end : WL l D base b L xs i 939 [] h := by
  intro p e s m below meth c C H locs A hP hS hL
  refine lv_iconst (pc := 939) (v := 1) C.1 C.2.1 d_La_law_939 (by decide) ?_
  refine va_forget (fun q hq => by rw [C.2.2.2.2.2.2.2.2.1]; exact hS.2.2 q hq) ?_
  refine W.widen (k := 600000) (n := 7302250) (Nat.le_of_ble_eq_true rfl) (Nat.le_of_ble_eq_true rfl) ?_
  exact lw_ret C.1 C.2.1 C.2.2.1 C.2.2.2.2.2.2.1 d_La_law_940
end LAWR

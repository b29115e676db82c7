/-! the rows of a constructor: cells that are made -/
theorem szs_app : ∀ (a b : List Sh), szs (a ++ b) = szs a + szs b
  | [], b => by show szs b = 0 + szs b; omega
  | .inl (t, n) :: a, b => by show n + szs (a ++ b) = n + szs a + szs b; rw [szs_app a b]; omega
  | .inr (c, fl) :: a, b => by show fl.length + szs (a ++ b) = fl.length + szs a + szs b; rw [szs_app a b]; omega
theorem PX_app {D : va_G} {base : Nat} {sh xs : List Sh} {h : Hp} {H H1 : Heap} (hP : PX D base sh h H) (z1 : H1.size = base + sh.length + xs.length) (o1 : ∀ q : Nat, q < base + sh.length → H1[q]? = H[q]?) (he : ∀ (j : Nat) (y : Sh), xs[j]? = some y → va_at D classes (base + (sh.length + j), en D base h (sh.length + j) y) H1) : PX D base (sh ++ xs) h H1 := by
  refine ⟨by rw [z1, List.length_append, Nat.add_assoc], fun k q hk => ?_⟩
  obtain ⟨y, hy, rfl⟩ := wl_inv hk
  by_cases hl : k < sh.length
  · rw [List.getElem?_append_left hl] at hy
    exact (hP.2 k _ (wl_get D base sh h hy)).kept (o1 _ (by show base + k < _; omega))
  · rw [List.getElem?_append_right (Nat.le_of_not_lt hl)] at hy
    have := he _ y hy
    rwa [show sh.length + (k - sh.length) = k by omega] at this
theorem PX_one {D : va_G} {base : Nat} {sh : List Sh} {x : Sh} {h : Hp} {H H1 : Heap} (hP : PX D base sh h H) (z1 : H1.size = base + sh.length + 1) (o1 : ∀ q : Nat, q < base + sh.length → H1[q]? = H[q]?) (he : va_at D classes (base + sh.length, en D base h sh.length x) H1) : PX D base (sh ++ [x]) h H1 := by
  refine PX_app hP z1 o1 (fun j y hy => ?_)
  have hj : j < 1 := (List.getElem?_eq_some_iff.mp hy).1
  have e : j = 0 := by omega
  subst e
  cases hy
  exact he
theorem zsub {a z n : Nat} (h : z ≤ a) : a + n - z = a - z + n := by omega
theorem S_new {base : Nat} {sz : Nat} {H0 H H1 : Heap} {locs : List Loc} {n : Nat} (hS : va_S (fun q => base ≤ q) H0 H locs) (hz : H.size = sz) (z1 : H1.size = sz + n) (o1 : ∀ q : Nat, q < sz → H1[q]? = H[q]?) : va_S (fun q => base ≤ q) H0 H1 locs := by
  subst hz
  exact ⟨Nat.le_trans hS.1 (by omega), fun x h1 h2 => (o1 x (Nat.lt_of_lt_of_le h1 hS.1)).trans (hS.2.1 x h1 h2), hS.2.2⟩
section CTR
variable {l : Launch} {D : va_G} {base : Nat} {z : Nat × Nat} {M : MI} {sh sh2 : List Sh} {pc : Nat} {ls : List (Option Value)} {st : List Value} {h : Hp} {Q : List Sh → Hp → Option Value → Prop}
/-- a new array of ints -/
theorem wx_newI {n : Int32} {N a : Nat} (hd : decode M.2.1 pc = .ok (.newarray .int, 2)) (hn : ¬ n < 0) (hN : n.toNatClampNeg = N) (hb : N ≤ 1000) (hw : Cond.arrayClass .int ∈ lw_gt) (ha : sh.length = a) (hs2 : sh ++ ([.inl (0, N)] : List Sh) = sh2) (hz1 : z.1 ≤ sh.length) (hz2 : z.2 ≤ szs sh) (hc : sh.length - z.1 + 1 ≤ M.2.2.2.2.cells) (hs : szs sh - z.2 + N ≤ M.2.2.2.2.slots) (h0 : ∀ j, gI h a j = 0)
    (k : WX l D base z M sh2 (pc + 2) ls (.ref a :: st) h Q) : WX l D base z M sh pc ls (.int n :: st) h Q := by
  intro p e s m args below meth c C H locs A hP hS hL
  subst ha; subst hs2
  refine va_newaK C.1 C.2.1 (atype := .int) (C.2.2.2.2.2.1 _ hw) rfl hd rfl hn hN (by show N * 4 ≤ _; omega) hc hs hP.1 (fun H1 cA e1 z1 o1 hAr hNm => ?_)
  have q1 : s.vm.findClass ("[" ++ (newarray.typeOf .int).toString) = some (D.1 10) := (C.2.2.2.2.2.2.2.1.1.2 0 _ rfl).2
  cases q1.symm.trans hNm
  have hP1 : PX D base (sh ++ ([.inl (0, N)] : List Sh)) h H1 := PX_one hP z1 o1 (by
    show H1[base + sh.length]? = some (vp_cell (D.1 10) (N, .inl (gI h sh.length)))
    rw [e1, vp_cell_i]
    congr 2
    funext j
    rw [h0]
    rfl)
  have k1 := k p e s m args below meth c C H1 locs A hP1 (S_new hS hP.1 z1 o1) hL
  have E1 : (sh ++ ([.inl (0, N)] : List Sh)).length - z.1 = sh.length - z.1 + 1 := by rw [List.length_append]; exact zsub hz1
  have E2 : szs (sh ++ ([.inl (0, N)] : List Sh)) - z.2 = szs sh - z.2 + N := by rw [szs_app]; exact zsub hz2
  rw [E1, E2] at k1
  exact k1
/-- a new array of booleans -/
theorem wx_newZ {n : Int32} {N a : Nat} (hd : decode M.2.1 pc = .ok (.newarray .boolean, 2)) (hn : ¬ n < 0) (hN : n.toNatClampNeg = N) (hb : N ≤ 1000) (hw : Cond.arrayClass .boolean ∈ lw_gt) (ha : sh.length = a) (hs2 : sh ++ ([.inl (1, N)] : List Sh) = sh2) (hz1 : z.1 ≤ sh.length) (hz2 : z.2 ≤ szs sh) (hc : sh.length - z.1 + 1 ≤ M.2.2.2.2.cells) (hs : szs sh - z.2 + N ≤ M.2.2.2.2.slots) (h0 : ∀ j, gI h a j = 0)
    (k : WX l D base z M sh2 (pc + 2) ls (.ref a :: st) h Q) : WX l D base z M sh pc ls (.int n :: st) h Q := by
  intro p e s m args below meth c C H locs A hP hS hL
  subst ha; subst hs2
  refine va_newaK C.1 C.2.1 (atype := .boolean) (C.2.2.2.2.2.1 _ hw) rfl hd rfl hn hN (by show N * 1 ≤ _; omega) hc hs hP.1 (fun H1 cA e1 z1 o1 hAr hNm => ?_)
  have q1 : s.vm.findClass ("[" ++ (newarray.typeOf .boolean).toString) = some (D.1 11) := (C.2.2.2.2.2.2.2.1.1.2 1 _ rfl).2
  cases q1.symm.trans hNm
  have hP1 : PX D base (sh ++ ([.inl (1, N)] : List Sh)) h H1 := PX_one hP z1 o1 (by
    show H1[base + sh.length]? = some (vp_cell (D.1 11) (N, .inl (gI h sh.length)))
    rw [e1, vp_cell_i]
    congr 2
    funext j
    rw [h0]
    rfl)
  have k1 := k p e s m args below meth c C H1 locs A hP1 (S_new hS hP.1 z1 o1) hL
  have E1 : (sh ++ ([.inl (1, N)] : List Sh)).length - z.1 = sh.length - z.1 + 1 := by rw [List.length_append]; exact zsub hz1
  have E2 : szs (sh ++ ([.inl (1, N)] : List Sh)) - z.2 = szs sh - z.2 + N := by rw [szs_app]; exact zsub hz2
  rw [E1, E2] at k1
  exact k1
/-- the fields of a new object -/
theorem fs_def {N : Nat} {ty0 : Nat → FieldType} {fs : List Value} (hf : fs = (List.range N).map (fun j => defaultValue (ty0 j))) (j : Nat) (hj : j < N) : defaultValue (ty0 j) = vp_V fs j := by
  subst hf
  unfold vp_V
  rw [List.getD_eq_getElem?_getD, List.getElem?_map, List.getElem?_range hj]
  rfl
theorem wx_newO {idx a ci N : Nat} {C : String} {T : u_T} {fl : List (Nat × Option Nat)} (hd : decode M.2.1 pc = .ok (.new idx, 3)) (hc : classes[ci]? = some (C, T, N)) (hin : ∀ w ∈ u_ws C T N, w ∈ lw_gt) (ty0 : Nat → FieldType) (hty : ∀ k, k < N → parseFieldDescriptor (T k).2.2.1 = some (ty0 k)) (hcl : Cond.classLink M.1.cls idx C ∈ lw_gt) (hinst : Cond.instantiable C N ∈ lw_gt) (hini : Cond.initialized C ∈ lw_gt) (ha : sh.length = a) (hs2 : sh ++ ([.inr (ci, fl)] : List Sh) = sh2) (hfl : fl.length = N) (hz1 : z.1 ≤ sh.length) (hz2 : z.2 ≤ szs sh) (hcc : sh.length - z.1 + 1 ≤ M.2.2.2.2.cells) (hs : szs sh - z.2 + N ≤ M.2.2.2.2.slots) (h0 : ∀ b, fvs b h a 0 fl = (List.range N).map (fun j => defaultValue (ty0 j)))
    (k : WX l D base z M sh2 (pc + 3) ls (.ref a :: st) h Q) : WX l D base z M sh pc ls st h Q := by
  intro p e s m args below meth c C0 H locs A hP hS hL
  subst ha; subst hs2; subst hfl
  have hKn := C0.2.2.2.2.2.2.2.1.1.1 ci _ hc
  refine W.newcK C0.1 C0.2.1 C0.2.2.2.2.1 (C0.2.2.2.2.2.1 _ hcl) (C0.2.2.2.2.2.1 _ hinst) (C0.2.2.2.2.2.1 _ hini) rfl hd hcc hs hKn.2.1 hP.1 (fun H1 kC hkC e1 z1 o1 => ?_)
  have hP1 : PX D base (sh ++ ([.inr (ci, fl)] : List Sh)) h H1 := PX_one hP z1 o1 ⟨_, hc, (u_born ty0 (fun w hw => C0.2.2.2.2.2.1 w hw) hin hKn hkC e1 hty).to (fs_def (h0 base))⟩
  have k1 := k p e s m args below meth c C0 H1 locs A hP1 (S_new hS hP.1 z1 o1) hL
  have E1 : (sh ++ ([.inr (ci, fl)] : List Sh)).length - z.1 = sh.length - z.1 + 1 := by rw [List.length_append]; exact zsub hz1
  have E2 : szs (sh ++ ([.inr (ci, fl)] : List Sh)) - z.2 = szs sh - z.2 + fl.length := by rw [szs_app]; exact zsub hz2
  rw [E1, E2] at k1
  exact k1
/-- a store into a final field, in its class's constructor, with the heap's size -/
theorem va_putFZ {p : Program} {e : Env} {R : Room} {s : State} {m : MethodId} {args : Array Value} {below : List Frame} {meth : Method} {c : Code} {H : Heap} {locs : List Loc} {cells slots : Nat} {Qf : State → Prop} {cc : ByteArray} {A : Array Slot} {rest : List Value} {cl : List vw_C} {B : Nat → Prop} {a : Nat} {tys : List (ClassId × FieldType)} {ws : va_W} {H0 : Heap}
    (hexec : p.tables.exec = Jvm.exec) (hb : c.code = cc) {own C : String} {T : u_T} {N ci index : Nat} {Ts : List Cond} (hts : ∀ w ∈ Ts, w.before args s = true) (hin : ∀ w ∈ u_ws C T N, w ∈ Ts) (ty0 : Nat → FieldType) (hty : ∀ k, k < N → parseFieldDescriptor (T k).2.2.1 = some (ty0 k)) (hnm : ∀ a, a < N → ∀ b, b < N → a ≠ b → (T a).2.1 ≠ (T b).2.1) (hown : s.vm.findClass own = some m.cls) (hK : va_K D cl tys s) (hP : va_P D cl ws H) (hD : va_D B ws) (hS0 : va_S B H0 H locs) (q0 : Nat) {fs : List Value} (he : ws[q0]? = some (a, .inr (ci, fs))) (hc : cl[ci]? = some (C, T, N)) (k : Nat) (hk : k < N) (hlink : (Cond.fieldLink own index (T k).1 (T k).2.1 (T k).2.2.1).before args s = true) (hfin : (T k).2.2.2 = true) (hin2 : meth.name = "<init>") (hdecl : (T k).1 = own) {ty : FieldType} {v : Value} (hd : parseFieldDescriptor (T k).2.2.1 = some ty) (hn : narrow ty v = v) (hfit : fits ty v = true) (hl : k < fs.length)
    (hdg : decode cc pc = .ok (.putfield index, 3)) (kk : ∀ (H1 : Heap) (locs1 : List Loc), H1.size = H.size → va_P D cl (ws.set q0 (a, .inr (ci, fs.set k v))) H1 → va_S B H0 H1 locs1 → W p l e R s m args below meth c H1 locs1 cells slots Qf (F0 m (pc + 3) A rest)) : W p l e R s m args below meth c H locs cells slots Qf (F0 m pc A (v :: .ref a :: rest)) := by
  have hap := va_apart (own := own) hts hin ty0 hty hnm hK hc
  obtain ⟨r, h1, cell, q1, q2, q3, q4⟩ := hP q0 _ he
  have hr : r = (C, T, N) := Option.some.inj (h1.symm.trans hc)
  subst hr
  obtain ⟨hS, hfc, kC, hkC, hkind⟩ := hK.1 ci _ hc
  obtain ⟨cf, kf, fi, f, hi, hsl⟩ := hS k hk
  have hlay := hts _ (hin _ (u_in_lay hk))
  unfold u_lay at hlay
  rw [if_pos hfin] at hlay
  have hst := (u_facts hfc hkC (u_lays hts hin hk) hi).1
  have hcf : m.cls = cf := by
    obtain ⟨_, _, c', _, _, _, -, -, hf', -, -, -, hown2, -⟩ := Cond.laysFinal_spec hlay
    have e1 : c' = cf := by have := hi.symm.trans hf'; simp at this; exact this.1.symm
    rw [hdecl] at hown2
    rw [← e1]; exact Option.some.inj (hown.symm.trans hown2)
  have h6 := u_fits hfc hkC hkind (Or.inr hlay) hi hd hn hfit
  refine W.putFinK hexec hb hown hlink hi hst hcf hin2 (by rw [q2]; exact h6) q1 q3 (by rw [hsl]; exact k2_hasslot (q4 k hk)) rfl rfl hdg fun H' e1 e2 e3 => ?_
  rw [hsl] at e1 ⊢
  exact kk H' _ e2 (hP.set hD he ⟨_, hc, t_OB.to (V := updV (vp_V fs) k v) ⟨_, e1, q2, q3, t_set q4 hap hk v⟩ (fun j _ => vp_updV_set hl v j)⟩ e3) (hS0.put e2 e3 (hD.2 q0 _ he))
theorem wx_putR {idx a ci k N r : Nat} {C : String} {T : u_T} {fl : List (Nat × Option Nat)} {ty : FieldType} (hd : decode M.2.1 pc = .ok (.putfield idx, 3)) (hsh : sh[a]? = some (.inr (ci, fl))) (hc : classes[ci]? = some (C, T, N)) (hin : ∀ w ∈ u_ws C T N, w ∈ lw_gt) (ty0 : Nat → FieldType) (hty : ∀ k, k < N → parseFieldDescriptor (T k).2.2.1 = some (ty0 k)) (hnm : ∀ a, a < N → ∀ b, b < N → a ≠ b → (T a).2.1 ≠ (T b).2.1) (hk : k < N) (hlink : Cond.fieldLink M.1.cls idx (T k).1 (T k).2.1 (T k).2.2.1 ∈ lw_gt) (hfin : (T k).2.2.2 = true) (hi : M.1.name = "<init>") (hdecl : (T k).1 = M.1.cls) (hty2 : parseFieldDescriptor (T k).2.2.1 = some ty) (hn : ∀ q, narrow ty (.ref q) = .ref q) (hfit : ∀ q, fits ty (.ref q) = true) (hf : fl[k]? = some (2, none)) (hs2 : sh.set a (.inr (ci, fl.set k (2, some r))) = sh2) (hl1 : sh2.length = sh.length) (hl2 : szs sh2 = szs sh)
    (kk : WX l D base z M sh2 (pc + 3) ls st h Q) : WX l D base z M sh pc ls (.ref r :: .ref a :: st) h Q := by
  intro p e s m args below meth c C0 H locs A hP hS hL
  refine va_putFZ C0.1 C0.2.1 (Ts := lw_gt) (fun w hw => C0.2.2.2.2.2.1 w hw) hin ty0 hty hnm C0.2.2.2.2.1 C0.2.2.2.2.2.2.2.1.1 hP.2 (wl_D D base sh h) hS a (wl_get D base sh h hsh) hc k hk (C0.2.2.2.2.2.1 _ hlink) hfin (C0.2.2.2.2.2.2.2.2.2.trans hi) hdecl (v := .ref (base + r)) hty2 (hn _) (hfit _) (by rw [fvs_len]; exact (List.getElem?_eq_some_iff.mp hf).1) hd (fun H1 locs1 hz hP1 hS1 => ?_)
  have e1 : (wl D base sh h).set a (base + a, .inr (ci, (fvs base h a 0 fl).set k (.ref (base + r)))) = wl D base (sh.set a (.inr (ci, fl.set k (2, some r)))) h := by
    refine wl_set hsh ?_ (fun b y hb _ => rfl)
    have := fvs_set (base := base) (h := h) (h' := h) (a := a) fl 0 k (f' := (2, some r)) (v := .ref (base + r)) hf rfl (fun i y hi => rfl)
    rw [this]
    rfl
  rw [e1, hs2] at hP1
  have k1 := kk p e s m args below meth c C0 H1 locs1 A ⟨by rw [hz, hl1]; exact hP.1, hP1⟩ hS1 hL
  rw [hl1, hl2] at k1
  exact k1
/-- Object's constructor -/
theorem wx_objI {idx b : Nat} (hd : decode M.2.1 pc = .ok (.invokespecial idx, 3)) (hl : Cond.methodLink M.1.cls idx Lib.objectInit ∈ lw_gt) (hi : Cond.instanceMethod Lib.objectInit ∈ lw_gt) (hcd : Cond.code Lib.objectInit ⟨#[0xb1]⟩ 1 none ∈ lw_gt) (hf : 1 ≤ M.2.2.2.2.frames) (hlo : (st.map fun v => v.category).sum + 12 ≤ M.2.2.2.2.locals)
    (k : WX l D base z M sh (pc + 3) ls st h Q) : WX l D base z M sh pc ls (.ref b :: st) h Q := by
  intro p e s m args below meth c C H locs A hP hS hL
  refine W.objInit C.1 C.2.1 C.2.2.2.2.1 (C.2.2.2.2.2.1 _ hl) (C.2.2.2.2.2.1 _ hi) (C.2.2.2.2.2.1 _ hcd) rfl (by rw [C.2.2.2.1]; exact hL.1) (a := base + b) (rest := st.map (up base)) rfl hd hf (by show 2 * 0 + _ + 12 ≤ _; rw [up_sum]; omega) (k p e s m args below meth c C H locs A hP hS hL)
/-- a nest mate's constructor without parameters -/
theorem wx_callIN {M' : MI} {idx b : Nat} {host : String} {Q' : List Sh → Hp → Option Value → Prop} (hd : decode M.2.1 pc = .ok (.invokespecial idx, 3)) (hM : okM M' 0) (hR : okR M M') (hl : ∀ U, KX D U → va_Nw (.methodLinkNest M.1.cls idx M'.1 host) U) (hnm : M'.1.name = "<init>") (hret : M'.2.2.2.1 = none) (hi : Cond.instanceMethod M'.1 ∈ lw_gt)
    (hsp : SX l D base M' sh [.ref b] h Q') (hw : (st.map fun v => v.category).sum ≤ 8) (hf : sh.length - z.1 + M'.2.2.2.2.cells ≤ M.2.2.2.2.cells ∧ szs sh - z.2 + M'.2.2.2.2.slots ≤ M.2.2.2.2.slots)
    (k : ∀ (sh' : List Sh) (h' : Hp) (r : Option Value), Q' sh' h' r → (sh.length - z.1 + M'.2.2.2.2.cells = sh'.length - z.1 ∧ szs sh - z.2 + M'.2.2.2.2.slots = szs sh' - z.2) ∧ WX l D base z M sh' (pc + 3) ls (r.toList ++ st) h' Q) : WX l D base z M sh pc ls (.ref b :: st) h Q := by
  intro p e s m args below meth c C H locs A hP hS hL
  refine W_call (va_runIN (b := base + b) (As := []) (rest := st.map (up base)) ⟨C.1, C.2.1, C.2.2.2.1, C.2.2.2.2.1, fun w hw => C.2.2.2.2.2.1 w hw⟩ hsp ⟨va_cnB (ws' := lw_gt) (bytes := M'.2.1) (maxL := M'.2.2.1) (ret := none) 0 (Ts := lw_gt) (fun w hw => C.2.2.2.2.2.1 w hw) (wsM_in hM.1) (by unfold wsM; rw [hret]) rfl rfl (hl s C.2.2.2.2.2.2.2.1) (C.2.2.2.2.2.1 _ hM.2.1) hM.2.2 hR, hnm, C.2.2.2.2.2.1 _ hi⟩ ⟨fb_pc D base sh h _, fun U hU hW => ⟨rfl, by rw [hU]; exact hP, C.2.2.2.2.2.2.2.1.warm hW⟩⟩ rfl rfl hL.1 rfl (lv_room (by rw [up_sum]; exact hw)) hd hf) hS (fun sh' h' r H1 locs1 hq1 hP1 hS1 => ?_)
  obtain ⟨⟨e1, e2⟩, k1⟩ := k sh' h' r hq1
  rw [r_up, e1, e2]
  exact k1 p e s m args below meth c C H1 locs1 A hP1 hS1 hL
/-- the outer row of a new row of rows, in the picture -/
def layR (h : Hp) (a N : Nat) : Hp := (h.1, h.2.1, fun b j => if b = a then (if j < N then some (a + 1 + j) else none) else h.2.2 b j)
theorem wx_multi {idx N Mm a : Nat} {n k : Int32} (hd : decode M.2.1 pc = .ok (.multianewarray idx 2, 4)) (hcl : Cond.classLink M.1.cls idx "[[I" ∈ lw_gt) (hw : Cond.arrayClass .int ∈ lw_gt) (hn : ¬ n < 0) (hk : ¬ k < 0) (hN : n.toNatClampNeg = N) (hM : k.toNatClampNeg = Mm) (hbN : N ≤ 1000) (hbM : Mm ≤ 1000) (ha : sh.length = a) (hs2 : sh ++ (.inl (2, N) :: List.replicate N (.inl (0, Mm)) : List Sh) = sh2) (hz1 : z.1 ≤ sh.length) (hz2 : z.2 ≤ szs sh) (hc : sh.length - z.1 + (1 + N) ≤ M.2.2.2.2.cells) (hs : szs sh - z.2 + (N + N * Mm) ≤ M.2.2.2.2.slots) (hE : szs sh2 = szs sh + (N + N * Mm)) (h0 : ∀ q j, a < q → q ≤ a + N → gI h q j = 0)
    (kk : WX l D base z M sh2 (pc + 4) ls (.ref a :: st) (layR h a N) Q) : WX l D base z M sh pc ls (.int k :: .int n :: st) h Q := by
  intro p e s m args below meth c C H locs A hP hS hL
  subst ha; subst hs2
  refine W_multi C.1 C.2.1 C.2.2.2.2.1 (C.2.2.2.2.2.1 _ hcl) C.2.2.2.2.2.2.2.1.2.2.2.2 (C.2.2.2.2.2.1 _ hw) hn hk hN hM hbN hbM hc hs hd (fun H1 cA comp f1 f2 z1 o1 e1 r1 => ?_)
  have q1 : s.vm.findClass ("[" ++ (FieldType.array .int).toString) = some (D.1 12) := (C.2.2.2.2.2.2.2.1.1.2 2 _ rfl).2
  have q2 : s.vm.findClass (FieldType.array .int).toString = some (D.1 10) := (C.2.2.2.2.2.2.2.1.1.2 0 _ rfl).2
  cases q1.symm.trans f1
  cases q2.symm.trans f2
  rw [hP.1] at z1 o1 e1 r1
  have hP0 : PX D base sh (layR h sh.length N) H := by
    refine ⟨hP.1, fun j q hq => ?_⟩
    obtain ⟨y, hy, rfl⟩ := wl_inv hq
    have hl : j < sh.length := (List.getElem?_eq_some_iff.mp hy).1
    have := hP.2 j _ (wl_get D base sh h hy)
    rw [← en_ext (h := h) (h' := layR h sh.length N) (D := D) (base := base) y (fun _ => rfl) (fun _ => rfl) (fun i => by show (if j = sh.length then _ else _) = _; rw [if_neg (by omega)]; rfl)] at this
    exact this
  have hP1 : PX D base (sh ++ (.inl (2, N) :: List.replicate N (.inl (0, Mm)) : List Sh)) (layR h sh.length N) H1 := by
    refine PX_app hP0 (by rw [z1, List.length_cons, List.length_replicate]; omega) o1 (fun j y hy => ?_)
    cases j with
    | zero =>
      cases hy
      show H1[base + sh.length]? = some (vp_cell (D.1 12) (N, .inr (.inr (.inr (.inr (fun j => rfv base (gR (layR h sh.length N) sh.length j)))))))
      rw [e1, vp_cell_q]
      congr 2
      funext j
      show _ = va_rf (rfv base (if sh.length = sh.length then (if j < N then some (sh.length + 1 + j) else none) else _))
      rw [if_pos rfl]
      by_cases hj : j < N
      · rw [if_pos hj, if_pos hj]
        show Value.ref (base + sh.length + 1 + j) = Value.ref (base + (sh.length + 1 + j))
        rw [show base + sh.length + 1 + j = base + (sh.length + 1 + j) by omega]
      · rw [if_neg hj, if_neg hj]
        rfl
    | succ j =>
      rw [List.getElem?_cons_succ] at hy
      have hj : j < N := by have := (List.getElem?_eq_some_iff.mp hy).1; rwa [List.length_replicate] at this
      rw [List.getElem?_replicate, if_pos hj] at hy
      cases hy
      show H1[base + (sh.length + (j + 1))]? = some (vp_cell (D.1 10) (Mm, .inl (gI h (sh.length + (j + 1)))))
      rw [show base + (sh.length + (j + 1)) = base + sh.length + 1 + j by omega, r1 j hj, vp_cell_i]
      congr 2
      funext i
      rw [h0 _ _ (by omega) (by omega)]
  have k1 := kk p e s m args below meth c C H1 locs A hP1 (S_new (n := 1 + N) hS hP.1 (by rw [z1]; omega) o1) hL
  have E1 : (sh ++ (.inl (2, N) :: List.replicate N (.inl (0, Mm)) : List Sh)).length - z.1 = sh.length - z.1 + 1 + N := by rw [List.length_append, List.length_cons, List.length_replicate]; omega
  have E2 : szs (sh ++ (.inl (2, N) :: List.replicate N (.inl (0, Mm)) : List Sh)) - z.2 = szs sh - z.2 + N + N * Mm := by rw [hE]; omega
  rw [E1, E2] at k1
  rw [hP.1]
  exact k1
end CTR

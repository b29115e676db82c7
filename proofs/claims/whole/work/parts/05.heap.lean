theorem gt_good {w : Cond} (h : w ∈ lw_gt) : w ∈ lw_gt ∧ ((w.onTables && w.keeps) = true ∨ ∃ ty, w = .arrayClass ty) := ⟨h, good_of_word (List.mem_filter.mp h).2⟩
theorem ig_of {ws : List Cond} (h1 : ∀ w ∈ ws, w ∈ lw_tbl) (h2 : ws.all goodWord = true) : ∀ w ∈ ws, w ∈ lw_gt := fun w hw => List.mem_filter.mpr ⟨h1 w hw, List.all_eq_true.mp h2 w hw⟩
theorem ig_Ln : ∀ w ∈ u_ws R_Ln T_Ln 12, w ∈ lw_gt := ig_of i_Ln (by decide +kernel)
theorem ig_Rd : ∀ w ∈ u_ws R_Rd T_Rd 3, w ∈ lw_gt := ig_of i_Rd (by decide +kernel)
theorem ig_Lm : ∀ w ∈ u_ws R_Lm T_Lm 15, w ∈ lw_gt := ig_of i_Lm (by decide +kernel)
theorem ig_Md : ∀ w ∈ u_ws R_Md T_Md 35, w ∈ lw_gt := ig_of i_Md (by decide +kernel)
section HPR
variable {l : Launch} {D : va_G} {base : Nat} {z : Nat × Nat} {M : MI} {sh : List Sh} {pc : Nat} {ls : List (Option Value)} {st : List Value} {h : Hp} {Q : List Sh → Hp → Option Value → Prop}
theorem wx_get {idx a ci k N : Nat} {C : String} {T : u_T} {fl : List (Nat × Option Nat)} {f : Nat × Option Nat} {v : Value} (hd : decode M.2.1 pc = .ok (.getfield idx, 3)) (hsh : sh[a]? = some (.inr (ci, fl))) (hc : classes[ci]? = some (C, T, N)) (hin : ∀ w ∈ u_ws C T N, w ∈ lw_gt) (hk : k < N) (hlink : Cond.fieldLink M.1.cls idx (T k).1 (T k).2.1 (T k).2.2.1 ∈ lw_gt) (hf : fl[k]? = some f) (hv : ∀ b, fv b h a k f = up b v)
    (kk : WX l D base z M sh (pc + 3) ls (v :: st) h Q) : WX l D base z M sh pc ls (.ref a :: st) h Q := by
  intro p e s m args below meth c C0 H locs A hP hS hL
  have hg := fvs_get (base := base) (h := h) (a := a) fl 0 k hf
  rw [Nat.zero_add, hv base] at hg
  exact va_get C0.1 C0.2.1 (Ts := lw_gt) (fun w hw => C0.2.2.2.2.2.1 w hw) hin C0.2.2.2.2.1 C0.2.2.2.2.2.2.2.1.1 hP.2 a (wl_get D base sh h hsh) hc k hk (C0.2.2.2.2.2.1 _ hlink) (fun _ h9 => h9) hg hd (kk p e s m args below meth c C0 H locs A hP hS hL)
/-- a store into a field that isn't final, with the heap's size -/
theorem va_putZ {p : Program} {e : Env} {R : Room} {s : State} {m : MethodId} {args : Array Value} {below : List Frame} {meth : Method} {c : Code} {H : Heap} {locs : List Loc} {cells slots : Nat} {Qf : State → Prop} {cc : ByteArray} {A : Array Slot} {rest : List Value} {cl : List vw_C} {B : Nat → Prop} {a : Nat} {tys : List (ClassId × FieldType)} {ws : va_W} {H0 : Heap}
    (hexec : p.tables.exec = Jvm.exec) (hb : c.code = cc) {own C : String} {T : u_T} {N ci index : Nat} {Ts : List Cond} (hts : ∀ w ∈ Ts, w.before args s = true) (hin : ∀ w ∈ u_ws C T N, w ∈ Ts) (ty0 : Nat → FieldType) (hty : ∀ k, k < N → parseFieldDescriptor (T k).2.2.1 = some (ty0 k)) (hnm : ∀ a, a < N → ∀ b, b < N → a ≠ b → (T a).2.1 ≠ (T b).2.1) (hown : s.vm.findClass own = some m.cls) (hK : va_K D cl tys s) (hP : va_P D cl ws H) (hD : va_D B ws) (hS0 : va_S B H0 H locs) (q0 : Nat) {fs : List Value} (he : ws[q0]? = some (a, .inr (ci, fs))) (hc : cl[ci]? = some (C, T, N)) (k : Nat) (hk : k < N) (hlink : (Cond.fieldLink own index (T k).1 (T k).2.1 (T k).2.2.1).before args s = true) (hfin : (T k).2.2.2 = false) {ty : FieldType} {v : Value} (hd : parseFieldDescriptor (T k).2.2.1 = some ty) (hn : narrow ty v = v) (hfit : fits ty v = true) (hl : k < fs.length)
    (hdg : decode cc pc = .ok (.putfield index, 3)) (kk : ∀ (H1 : Heap) (locs1 : List Loc), H1.size = H.size → va_P D cl (ws.set q0 (a, .inr (ci, fs.set k v))) H1 → va_S B H0 H1 locs1 → W p l e R s m args below meth c H1 locs1 cells slots Qf (F0 m (pc + 3) A rest)) : W p l e R s m args below meth c H locs cells slots Qf (F0 m pc A (v :: .ref a :: rest)) := by
  have hap := va_apart (own := own) hts hin ty0 hty hnm hK hc
  obtain ⟨r, h1, cell, q1, q2, q3, q4⟩ := hP q0 _ he
  have hr : r = (C, T, N) := Option.some.inj (h1.symm.trans hc)
  subst hr
  obtain ⟨hS, hfc, kC, hkC, hkind⟩ := hK.1 ci _ hc
  obtain ⟨cf, kf, fi, f, hi, hsl⟩ := hS k hk
  have hlay := hts _ (hin _ (u_in_lay hk))
  unfold u_lay at hlay
  rw [if_neg (by rw [hfin]; decide)] at hlay
  have hst := (u_facts hfc hkC (u_lays hts hin hk) hi).1
  have h6 := u_store hfc hkC hkind hlay hi hd hn hfit
  refine W.putK hexec hb (f := f) ⟨hown, hlink, ⟨_, _, _, hi⟩, hst⟩ (by rw [q2]; exact h6) q1 q3 (by rw [hsl]; exact k2_hasslot (q4 k hk)) rfl rfl hdg fun H' e1 e2 e3 => ?_
  rw [hsl] at e1 ⊢
  exact kk H' _ e2 (hP.set hD he ⟨_, hc, t_OB.to (V := updV (vp_V fs) k v) ⟨_, e1, q2, q3, t_set q4 hap hk v⟩ (fun j _ => vp_updV_set hl v j)⟩ e3) (hS0.put e2 e3 (hD.2 q0 _ he))
theorem gI_ne {h : Hp} {a k b : Nat} {v : Int32} (e : b ≠ a) (j : Nat) : gI (sI h a k v) b j = gI h b j := by rw [gI_sI, if_neg (fun q => e q.1)]
theorem gL_ne {h : Hp} {a k b : Nat} {v : Int64} (e : b ≠ a) (j : Nat) : gL (sL h a k v) b j = gL h b j := by rw [gL_sL, if_neg (fun q => e q.1)]
theorem gR_ne {h : Hp} {a k b : Nat} {v : Option Nat} (e : b ≠ a) (j : Nat) : gR (sR h a k v) b j = gR h b j := by rw [gR_sR, if_neg (fun q => e q.1)]
theorem wx_putI {idx a ci k N : Nat} {C : String} {T : u_T} {fl : List (Nat × Option Nat)} {v : Int32} (hd : decode M.2.1 pc = .ok (.putfield idx, 3)) (hsh : sh[a]? = some (.inr (ci, fl))) (hc : classes[ci]? = some (C, T, N)) (hin : ∀ w ∈ u_ws C T N, w ∈ lw_gt) (ty0 : Nat → FieldType) (hty : ∀ k, k < N → parseFieldDescriptor (T k).2.2.1 = some (ty0 k)) (hnm : ∀ a, a < N → ∀ b, b < N → a ≠ b → (T a).2.1 ≠ (T b).2.1) (hk : k < N) (hlink : Cond.fieldLink M.1.cls idx (T k).1 (T k).2.1 (T k).2.2.1 ∈ lw_gt) (hfin : (T k).2.2.2 = false) (hty2 : parseFieldDescriptor (T k).2.2.1 = some .int) (hf : fl[k]? = some (0, none))
    (kk : WX l D base z M sh (pc + 3) ls st (sI h a k v) Q) : WX l D base z M sh pc ls (.int v :: .ref a :: st) h Q := by
  intro p e s m args below meth c C0 H locs A hP hS hL
  refine va_putZ C0.1 C0.2.1 (Ts := lw_gt) (fun w hw => C0.2.2.2.2.2.1 w hw) hin ty0 hty hnm C0.2.2.2.2.1 C0.2.2.2.2.2.2.2.1.1 hP.2 (wl_D D base sh h) hS a (wl_get D base sh h hsh) hc k hk (C0.2.2.2.2.2.1 _ hlink) hfin (v := .int v) hty2 rfl rfl (by rw [fvs_len]; exact (List.getElem?_eq_some_iff.mp hf).1) hd (fun H1 locs1 hz hP1 hS1 => ?_)
  have e1 : (wl D base sh h).set a (base + a, .inr (ci, (fvs base h a 0 fl).set k (.int v))) = wl D base (sh.set a (.inr (ci, fl))) (sI h a k v) := by
    refine wl_set hsh ?_ (fun b y hb _ => en_ext y (gI_ne hb) (fun _ => rfl) (fun _ => rfl))
    have := fvs_set (base := base) (h := h) (h' := sI h a k v) (a := a) fl 0 k (f' := (0, none)) (v := .int v) hf (by rw [Nat.zero_add]; show Value.int v = Value.int (gI (sI h a k v) a k); rw [gI_sI, if_pos ⟨rfl, rfl⟩]) (fun i y hi => by
      unfold fv
      rw [gI_sI, if_neg (fun q => hi (by omega))]
      rfl)
    rw [this, set_same hf]
    rfl
  rw [e1, set_same hsh] at hP1
  exact kk p e s m args below meth c C0 H1 locs1 A ⟨by rw [hz]; exact hP.1, hP1⟩ hS1 hL
theorem wx_putL {idx a ci k N : Nat} {C : String} {T : u_T} {fl : List (Nat × Option Nat)} {v : Int64} (hd : decode M.2.1 pc = .ok (.putfield idx, 3)) (hsh : sh[a]? = some (.inr (ci, fl))) (hc : classes[ci]? = some (C, T, N)) (hin : ∀ w ∈ u_ws C T N, w ∈ lw_gt) (ty0 : Nat → FieldType) (hty : ∀ k, k < N → parseFieldDescriptor (T k).2.2.1 = some (ty0 k)) (hnm : ∀ a, a < N → ∀ b, b < N → a ≠ b → (T a).2.1 ≠ (T b).2.1) (hk : k < N) (hlink : Cond.fieldLink M.1.cls idx (T k).1 (T k).2.1 (T k).2.2.1 ∈ lw_gt) (hfin : (T k).2.2.2 = false) (hty2 : parseFieldDescriptor (T k).2.2.1 = some .long) (hf : fl[k]? = some (1, none))
    (kk : WX l D base z M sh (pc + 3) ls st (sL h a k v) Q) : WX l D base z M sh pc ls (.long v :: .ref a :: st) h Q := by
  intro p e s m args below meth c C0 H locs A hP hS hL
  refine va_putZ C0.1 C0.2.1 (Ts := lw_gt) (fun w hw => C0.2.2.2.2.2.1 w hw) hin ty0 hty hnm C0.2.2.2.2.1 C0.2.2.2.2.2.2.2.1.1 hP.2 (wl_D D base sh h) hS a (wl_get D base sh h hsh) hc k hk (C0.2.2.2.2.2.1 _ hlink) hfin (v := .long v) hty2 rfl rfl (by rw [fvs_len]; exact (List.getElem?_eq_some_iff.mp hf).1) hd (fun H1 locs1 hz hP1 hS1 => ?_)
  have e1 : (wl D base sh h).set a (base + a, .inr (ci, (fvs base h a 0 fl).set k (.long v))) = wl D base (sh.set a (.inr (ci, fl))) (sL h a k v) := by
    refine wl_set hsh ?_ (fun b y hb _ => en_ext y (fun _ => rfl) (gL_ne hb) (fun _ => rfl))
    have := fvs_set (base := base) (h := h) (h' := sL h a k v) (a := a) fl 0 k (f' := (1, none)) (v := .long v) hf (by rw [Nat.zero_add]; show Value.long v = Value.long (gL (sL h a k v) a k); rw [gL_sL, if_pos ⟨rfl, rfl⟩]) (fun i y hi => by
      unfold fv
      rw [gL_sL, if_neg (fun q => hi (by omega))]
      rfl)
    rw [this, set_same hf]
    rfl
  rw [e1, set_same hsh] at hP1
  exact kk p e s m args below meth c C0 H1 locs1 A ⟨by rw [hz]; exact hP.1, hP1⟩ hS1 hL
theorem wx_iald {a n : Nat} {i : Int32} (hd : decode M.2.1 pc = .ok (.iaload, 1)) (hsh : sh[a]? = some (.inl (0, n))) (hi : vp_in i n) (kk : WX l D base z M sh (pc + 1) ls (.int (gI h a i.toNatClampNeg) :: st) h Q) : WX l D base z M sh pc ls (.int i :: .ref a :: st) h Q :=
  fun p e s m args below meth c C0 H locs A hP hS hL => va_iald C0.1 C0.2.1 C0.2.2.2.2.2.2.2.1.1 hP.2 a 0 (wl_get D base sh h hsh) rfl hi hd (kk p e s m args below meth c C0 H locs A hP hS hL)
theorem wx_bald {a n : Nat} {i : Int32} (hd : decode M.2.1 pc = .ok (.baload, 1)) (hsh : sh[a]? = some (.inl (1, n))) (hi : vp_in i n) (kk : WX l D base z M sh (pc + 1) ls (.int (gI h a i.toNatClampNeg) :: st) h Q) : WX l D base z M sh pc ls (.int i :: .ref a :: st) h Q :=
  fun p e s m args below meth c C0 H locs A hP hS hL => va_zald C0.1 C0.2.1 C0.2.2.2.2.2.2.2.1.1 hP.2 a 1 (wl_get D base sh h hsh) rfl hi hd (kk p e s m args below meth c C0 H locs A hP hS hL)
theorem wx_alen {a n : Nat} (hd : decode M.2.1 pc = .ok (.arraylength, 1)) (hsh : sh[a]? = some (.inl (0, n))) (kk : WX l D base z M sh (pc + 1) ls (.int (Int32.ofNat n) :: st) h Q) : WX l D base z M sh pc ls (.ref a :: st) h Q :=
  fun p e s m args below meth c C0 H locs A hP hS hL => va_alen C0.1 C0.2.1 C0.2.2.2.2.2.2.2.1.1 hP.2 a 0 (wl_get D base sh h hsh) rfl rfl hd (kk p e s m args below meth c C0 H locs A hP hS hL)
theorem up_upd {h : Hp} {a k : Nat} {v : Int32} : upd (gI h a) k v = gI (sI h a k v) a := by
  funext j
  rw [gI_sI]
  unfold upd
  by_cases e : j = k
  · rw [if_pos e, if_pos ⟨rfl, e⟩]
  · rw [if_neg e, if_neg (fun q => e q.2)]
theorem wx_iast {a n : Nat} {i v : Int32} (hd : decode M.2.1 pc = .ok (.iastore, 1)) (hsh : sh[a]? = some (.inl (0, n))) (hi : vp_in i n) (kk : WX l D base z M sh (pc + 1) ls st (sI h a i.toNatClampNeg v) Q) : WX l D base z M sh pc ls (.int v :: .int i :: .ref a :: st) h Q := by
  intro p e s m args below meth c C0 H locs A hP hS hL
  have ha := wl_get D base sh h hsh
  refine W.iast C0.1 C0.2.1 (hP.2 a _ ha) ((C0.2.2.2.2.2.2.2.1.1.2 0 _ rfl).1 n (fun j => .int (gI h a j))) (fun q => by cases q) (by show ¬ (i < 0 ∨ (arrV _ _ _).slots.size ≤ _); rw [arrV_size]; exact hi) rfl rfl hd fun H1 e1 zz oq => ?_
  have hP1 := hP.2.set (wl_D D base sh h) ha (e := .inl (D.1 10, n, .inl (upd (gI h a) i.toNatClampNeg v))) (H1 := H1) (by
    show H1[base + a]? = some (vp_cell _ _)
    rw [e1]
    show some (Cell.setSlot (vp_cell (D.1 10) (n, .inl (gI h a))) _ _) = _
    rw [vp_cell_i, vp_cell_i, arrV_store]
    congr 2
    funext q
    by_cases hq : q = i.toNatClampNeg
    · subst hq
      simp [updV, upd]
    · simp [updV, upd, hq]) oq
  have e2 : (wl D base sh h).set a (base + a, .inl (D.1 10, n, .inl (gI (sI h a i.toNatClampNeg v) a))) = wl D base sh (sI h a i.toNatClampNeg v) := (wl_set (h' := sI h a i.toNatClampNeg v) (x' := .inl (0, n)) hsh rfl (fun b y hb _ => en_ext y (gI_ne hb) (fun _ => rfl) (fun _ => rfl))).trans (by rw [set_same hsh])
  rw [up_upd, e2] at hP1
  exact kk p e s m args below meth c C0 H1 _ A ⟨by rw [zz]; exact hP.1, hP1⟩ (hS.put zz oq (Nat.le_add_right _ _)) hL
theorem wx_bast {a n : Nat} {i v : Int32} (hd : decode M.2.1 pc = .ok (.bastore, 1)) (hsh : sh[a]? = some (.inl (1, n))) (hi : vp_in i n) (hv : vp_nar .boolean v = v) (kk : WX l D base z M sh (pc + 1) ls st (sI h a i.toNatClampNeg v) Q) : WX l D base z M sh pc ls (.int v :: .int i :: .ref a :: st) h Q := by
  intro p e s m args below meth c C0 H locs A hP hS hL
  have ha := wl_get D base sh h hsh
  refine W.zast C0.1 C0.2.1 (hP.2 a _ ha) ((C0.2.2.2.2.2.2.2.1.1.2 1 _ rfl).1 n (fun j => .int (gI h a j))) (fun q => by cases q) (by show ¬ (i < 0 ∨ (arrV _ _ _).slots.size ≤ _); rw [arrV_size]; exact hi) rfl rfl hd fun H1 e1 zz oq => ?_
  have hP1 := hP.2.set (wl_D D base sh h) ha (e := .inl (D.1 11, n, .inl (upd (gI h a) i.toNatClampNeg (vp_nar .boolean v)))) (H1 := H1) (by
    show H1[base + a]? = some (vp_cell _ _)
    rw [e1]
    show some (Cell.setSlot (vp_cell (D.1 11) (n, .inl (gI h a))) _ _) = _
    rw [vp_cell_i, vp_cell_i, arrV_store]
    congr 2
    funext q
    by_cases hq : q = i.toNatClampNeg
    · subst hq
      simp [updV, upd, vp_nar]
      try rfl
    · simp [updV, upd, hq]) oq
  have e2 : (wl D base sh h).set a (base + a, .inl (D.1 11, n, .inl (gI (sI h a i.toNatClampNeg v) a))) = wl D base sh (sI h a i.toNatClampNeg v) := (wl_set (h' := sI h a i.toNatClampNeg v) (x' := .inl (1, n)) hsh rfl (fun b y hb _ => en_ext y (gI_ne hb) (fun _ => rfl) (fun _ => rfl))).trans (by rw [set_same hsh])
  rw [hv, up_upd, e2] at hP1
  exact kk p e s m args below meth c C0 H1 _ A ⟨by rw [zz]; exact hP.1, hP1⟩ (hS.put zz oq (Nat.le_add_right _ _)) hL
theorem wx_aald {a n r : Nat} {i : Int32} (hd : decode M.2.1 pc = .ok (.aaload, 1)) (hsh : sh[a]? = some (.inl (2, n))) (hi : vp_in i n) (hr : gR h a i.toNatClampNeg = some r) (kk : WX l D base z M sh (pc + 1) ls (.ref r :: st) h Q) : WX l D base z M sh pc ls (.int i :: .ref a :: st) h Q := by
  intro p e s m args below meth c C0 H locs A hP hS hL
  have hlt : i.toNatClampNeg < n := Nat.not_le.mp fun q => hi (Or.inr q)
  exact W.aald (v := .ref (base + r)) C0.1 C0.2.1 (hP.2 a _ (wl_get D base sh h hsh)) ((C0.2.2.2.2.2.2.2.1.1.2 2 _ rfl).1 n (fun j => va_rf (rfv base (gR h a j)))) rfl (fun q => by cases q) (by show ¬ (i < 0 ∨ (arrV _ _ _).slots.size ≤ _); rw [arrV_size]; exact hi) (by show (arrV _ _ _).slots[_]? = _; rw [arrV_read _ _ hlt]; show some (va_rf (rfv base (gR h a i.toNatClampNeg))) = _; rw [hr]; rfl) rfl rfl hd (kk p e s m args below meth c C0 H locs A hP hS hL)
theorem wx_aast {a n r k : Nat} {i : Int32} (hd : decode M.2.1 pc = .ok (.aastore, 1)) (hsh : sh[a]? = some (.inl (2, n))) (hr : sh[r]? = some (.inl (0, k))) (hi : vp_in i n) (kk : WX l D base z M sh (pc + 1) ls st (sR h a i.toNatClampNeg (some r)) Q) : WX l D base z M sh pc ls (.ref r :: .int i :: .ref a :: st) h Q := by
  intro p e s m args below meth c C0 H locs A hP hS hL
  have hlt : i.toNatClampNeg < n := Nat.not_le.mp fun q => hi (Or.inr q)
  have h0 : ¬ i < 0 := fun q => hi (Or.inl q)
  have ha := wl_get D base sh h hsh
  have hrc := hP.2 r _ (wl_get D base sh h hr)
  obtain ⟨comp, cA2, kA, k3, -, k1, k2, k4⟩ := AOA_spec C0.2.2.2.2.2.2.2.1.2.2.2.2
  have q1 : s.vm.findClass ("[" ++ (FieldType.array .int).toString) = some (D.1 12) := (C0.2.2.2.2.2.2.2.1.1.2 2 _ rfl).2
  have q2 : s.vm.findClass (FieldType.array .int).toString = some (D.1 10) := (C0.2.2.2.2.2.2.2.1.1.2 0 _ rfl).2
  cases q1.symm.trans k4
  cases k3.symm.trans q2
  obtain ⟨kE, hkE, -⟩ := Vm.findClass_spec k3
  refine W.aast C0.1 C0.2.1 (hP.2 a _ ha) (fun q hq => by cases hq) (fun hq => by cases hq) k1 k2 rfl hkE ⟨h0, by show _ < (arrV _ _ _).slots.size; rw [arrV_size]; exact hlt⟩ hrc (fun q hq => by cases hq) hkE (va_asg _ _) rfl rfl hd fun H1 e1 zz oq => ?_
  have hP1 := hP.2.set (wl_D D base sh h) ha (e := en D base (sR h a i.toNatClampNeg (some r)) a (.inl (2, n))) (H1 := H1) (by
    show H1[base + a]? = some (vp_cell _ _)
    rw [e1]
    show some (Cell.setSlot (vp_cell (D.1 12) (n, .inr (.inr (.inr (.inr (fun k => rfv base (gR h a k))))))) _ _) = some (vp_cell (D.1 12) (n, .inr (.inr (.inr (.inr (fun k => rfv base (gR (sR h a i.toNatClampNeg (some r)) a k)))))))
    rw [vp_cell_q, vp_cell_q, arrV_store]
    congr 2
    funext q
    rw [gR_sR]
    by_cases hq : q = i.toNatClampNeg
    · subst hq
      simp [updV, va_rf, rfv]
    · simp [updV, hq]) oq
  have e2 : (wl D base sh h).set a (base + a, en D base (sR h a i.toNatClampNeg (some r)) a (.inl (2, n))) = wl D base sh (sR h a i.toNatClampNeg (some r)) := (wl_set (h := h) (h' := sR h a i.toNatClampNeg (some r)) (x' := .inl (2, n)) hsh rfl (fun b y hb _ => en_ext y (fun _ => rfl) (fun _ => rfl) (gR_ne hb))).trans (by rw [set_same hsh])
  rw [e2] at hP1
  exact kk p e s m args below meth c C0 H1 _ A ⟨by rw [zz]; exact hP.1, hP1⟩ (hS.put zz oq (Nat.le_add_right _ _)) hL
end HPR

/-! A flat picture of the heap: the cells that the law makes lie at base, base + 1, ..; h has their ints, longs, references; sh their shapes -/
abbrev Hp : Type := (Nat → Nat → Int32) × (Nat → Nat → Int64) × (Nat → Nat → Option Nat)
def gI (h : Hp) (a k : Nat) : Int32 := h.1 a k
def gL (h : Hp) (a k : Nat) : Int64 := h.2.1 a k
def gR (h : Hp) (a k : Nat) : Option Nat := h.2.2 a k
def sI (h : Hp) (a k : Nat) (v : Int32) : Hp := (fun b j => if b = a ∧ j = k then v else h.1 b j, h.2.1, h.2.2)
def sL (h : Hp) (a k : Nat) (v : Int64) : Hp := (h.1, fun b j => if b = a ∧ j = k then v else h.2.1 b j, h.2.2)
def sR (h : Hp) (a k : Nat) (v : Option Nat) : Hp := (h.1, h.2.1, fun b j => if b = a ∧ j = k then v else h.2.2 b j)
theorem gI_sI (h : Hp) (a k : Nat) (v : Int32) (b j : Nat) : gI (sI h a k v) b j = if b = a ∧ j = k then v else gI h b j := rfl
theorem gL_sI (h : Hp) (a k : Nat) (v : Int32) (b j : Nat) : gL (sI h a k v) b j = gL h b j := rfl
theorem gR_sI (h : Hp) (a k : Nat) (v : Int32) (b j : Nat) : gR (sI h a k v) b j = gR h b j := rfl
theorem gI_sL (h : Hp) (a k : Nat) (v : Int64) (b j : Nat) : gI (sL h a k v) b j = gI h b j := rfl
theorem gL_sL (h : Hp) (a k : Nat) (v : Int64) (b j : Nat) : gL (sL h a k v) b j = if b = a ∧ j = k then v else gL h b j := rfl
theorem gR_sL (h : Hp) (a k : Nat) (v : Int64) (b j : Nat) : gR (sL h a k v) b j = gR h b j := rfl
theorem gI_sR (h : Hp) (a k : Nat) (v : Option Nat) (b j : Nat) : gI (sR h a k v) b j = gI h b j := rfl
theorem gL_sR (h : Hp) (a k : Nat) (v : Option Nat) (b j : Nat) : gL (sR h a k v) b j = gL h b j := rfl
theorem gR_sR (h : Hp) (a k : Nat) (v : Option Nat) (b j : Nat) : gR (sR h a k v) b j = if b = a ∧ j = k then v else gR h b j := rfl
/-- a shape: an array (its type: 0 int, 1 boolean, 2 int[]; its length), or an object (its class's number; its fields: 0 int, 1 long, 2 a reference with what it is) -/
abbrev Sh : Type := (Nat × Nat) ⊕ (Nat × List (Nat × Option Nat))
def rfv (base : Nat) (r : Option Nat) : Option Nat := r.map (fun a => base + a)
def fv (base : Nat) (h : Hp) (a k : Nat) (f : Nat × Option Nat) : Value := match f.1 with
  | 0 => .int (gI h a k)
  | 1 => .long (gL h a k)
  | _ => va_rf (rfv base f.2)
def fvs (base : Nat) (h : Hp) (a : Nat) : Nat → List (Nat × Option Nat) → List Value
  | _, [] => []
  | k, f :: t => fv base h a k f :: fvs base h a (k + 1) t
def en (D : va_G) (base : Nat) (h : Hp) (a : Nat) (x : Sh) : va_E := match x with
  | .inl (0, n) => .inl (D.1 10, n, .inl (gI h a))
  | .inl (1, n) => .inl (D.1 11, n, .inl (gI h a))
  | .inl (_, n) => .inl (D.1 12, n, .inr (.inr (.inr (.inr (fun k => rfv base (gR h a k))))))
  | .inr (ci, fl) => .inr (ci, fvs base h a 0 fl)
def wl (D : va_G) (base : Nat) (sh : List Sh) (h : Hp) : va_W := sh.mapIdx (fun i x => (base + i, en D base h i x))
def szs : List Sh → Nat
  | [] => 0
  | .inl (_, n) :: t => n + szs t
  | .inr (_, fl) :: t => fl.length + szs t
def up (base : Nat) (v : Value) : Value := match v with
  | .ref a => .ref (base + a)
  | w => w
theorem up_cat (base : Nat) (v : Value) : (up base v).category = v.category := by cases v <;> rfl
theorem wl_get (D : va_G) (base : Nat) (sh : List Sh) (h : Hp) {a : Nat} {x : Sh} (hx : sh[a]? = some x) : (wl D base sh h)[a]? = some (base + a, en D base h a x) := by
  unfold wl
  rw [List.getElem?_mapIdx, hx]
  rfl
theorem wl_inv {D : va_G} {base : Nat} {sh : List Sh} {h : Hp} {a : Nat} {q : Nat × va_E} (hq : (wl D base sh h)[a]? = some q) : ∃ x, sh[a]? = some x ∧ q = (base + a, en D base h a x) := by
  unfold wl at hq
  rw [List.getElem?_mapIdx] at hq
  cases hx : sh[a]? with
  | none => rw [hx] at hq; cases hq
  | some x => rw [hx] at hq; cases hq; exact ⟨x, rfl, rfl⟩
theorem wl_D (D : va_G) (base : Nat) (sh : List Sh) (h : Hp) : va_D (fun q => base ≤ q) (wl D base sh h) := by
  refine ⟨fun i j p q hi hj e => ?_, fun k q hk => ?_⟩
  · obtain ⟨x, -, rfl⟩ := wl_inv hi
    obtain ⟨y, -, rfl⟩ := wl_inv hj
    have e2 : base + i = base + j := e
    omega
  · obtain ⟨x, -, rfl⟩ := wl_inv hk
    exact Nat.le_add_right _ _
theorem wl_set {D : va_G} {base : Nat} {sh : List Sh} {h h' : Hp} {a : Nat} {x x' : Sh} {e : va_E} (hx : sh[a]? = some x) (he : e = en D base h' a x') (ho : ∀ b y, b ≠ a → sh[b]? = some y → en D base h' b y = en D base h b y) : (wl D base sh h).set a (base + a, e) = wl D base (sh.set a x') h' := by
  apply List.ext_getElem?
  intro k
  have hl : a < sh.length := (List.getElem?_eq_some_iff.mp hx).1
  by_cases hk : k = a
  · subst hk
    rw [List.getElem?_set_self (by unfold wl; rw [List.length_mapIdx]; exact hl)]
    rw [wl_get D base (sh.set k x') h' (x := x') (List.getElem?_set_self hl), he]
  · rw [List.getElem?_set_ne (Ne.symm hk)]
    have e2 : (sh.set a x')[k]? = sh[k]? := List.getElem?_set_ne (Ne.symm hk)
    unfold wl
    rw [List.getElem?_mapIdx, List.getElem?_mapIdx, e2]
    cases hy : sh[k]? with
    | none => rfl
    | some y => 
      show some (base + k, en D base h k y) = some (base + k, en D base h' k y)
      rw [ho k y hk hy]
theorem set_same {α : Type} {l : List α} {a : Nat} {x : α} (h : l[a]? = some x) : l.set a x = l := by
  apply List.ext_getElem?
  intro k
  by_cases hk : k = a
  · subst hk
    rw [List.getElem?_set_self (List.getElem?_eq_some_iff.mp h).1, h]
  · rw [List.getElem?_set_ne (Ne.symm hk)]
theorem fvs_ext {base : Nat} {h h' : Hp} {a : Nat} : ∀ (fl : List (Nat × Option Nat)) (k : Nat), (∀ j, gI h' a j = gI h a j) → (∀ j, gL h' a j = gL h a j) → fvs base h' a k fl = fvs base h a k fl
  | [], _, _, _ => rfl
  | f :: t, k, h1, h2 => by
    show fv base h' a k f :: fvs base h' a (k + 1) t = fv base h a k f :: fvs base h a (k + 1) t
    rw [fvs_ext t (k + 1) h1 h2]
    unfold fv
    rw [h1, h2]
theorem en_ext {D : va_G} {base : Nat} {h h' : Hp} {a : Nat} (x : Sh) (h1 : ∀ j, gI h' a j = gI h a j) (h2 : ∀ j, gL h' a j = gL h a j) (h3 : ∀ j, gR h' a j = gR h a j) : en D base h' a x = en D base h a x := by
  have e1 : gI h' a = gI h a := funext h1
  have e3 : gR h' a = gR h a := funext h3
  rcases x with ⟨t, n⟩ | ⟨ci, fl⟩
  · match t with
    | 0 => simp only [en, e1]
    | 1 => simp only [en, e1]
    | t + 2 => simp only [en, e3]
  · simp only [en]
    rw [fvs_ext fl 0 h1 h2]
theorem fvs_get {base : Nat} {h : Hp} {a : Nat} : ∀ (fl : List (Nat × Option Nat)) (k j : Nat) {f : Nat × Option Nat}, fl[j]? = some f → (fvs base h a k fl)[j]? = some (fv base h a (k + j) f)
  | [], _, j, _, e => by simp at e
  | g :: t, k, 0, f, e => by
    rw [List.getElem?_cons_zero] at e
    cases e
    rfl
  | g :: t, k, j + 1, f, e => by
    rw [List.getElem?_cons_succ] at e
    show (fvs base h a (k + 1) t)[j]? = _
    rw [fvs_get t (k + 1) j e, show k + 1 + j = k + (j + 1) by omega]
theorem fvs_len {base : Nat} {h : Hp} {a : Nat} : ∀ (fl : List (Nat × Option Nat)) (k : Nat), (fvs base h a k fl).length = fl.length
  | [], _ => rfl
  | g :: t, k => by
    show (fvs base h a (k + 1) t).length + 1 = t.length + 1
    rw [fvs_len t (k + 1)]
theorem fvs_set {base : Nat} {h h' : Hp} {a : Nat} : ∀ (fl : List (Nat × Option Nat)) (k j : Nat) {f f' : Nat × Option Nat} {v : Value}, fl[j]? = some f → v = fv base h' a (k + j) f' → (∀ i y, i ≠ k + j → fv base h' a i y = fv base h a i y) → (fvs base h a k fl).set j v = fvs base h' a k (fl.set j f')
  | [], _, j, _, _, _, e, _, _ => by simp at e
  | g :: t, k, 0, f, f', v, e, hv, ho => by
    show v :: fvs base h a (k + 1) t = fv base h' a k f' :: fvs base h' a (k + 1) t
    rw [hv]
    have : ∀ (l : List (Nat × Option Nat)) (i : Nat), k < i → fvs base h a i l = fvs base h' a i l := by
      intro l
      induction l with
      | nil => intro i _; rfl
      | cons y l ih =>
        intro i hi
        show fv base h a i y :: fvs base h a (i + 1) l = fv base h' a i y :: fvs base h' a (i + 1) l
        rw [ih (i + 1) (by omega), ho i y (by omega)]
    rw [this t (k + 1) (by omega)]
    rfl
  | g :: t, k, j + 1, f, f', v, e, hv, ho => by
    rw [List.getElem?_cons_succ] at e
    show fv base h a k g :: (fvs base h a (k + 1) t).set j v = fv base h' a k g :: fvs base h' a (k + 1) (t.set j f')
    rw [fvs_set t (k + 1) j e (by rw [hv, show k + 1 + j = k + (j + 1) by omega]) (fun i y hi => ho i y (by omega)), ho k g (by omega)]
/-! locals -/
def lget : List (Option Value) → Nat → Option Value
  | [], _ => none
  | v :: _, 0 => v
  | _ :: t, n + 1 => lget t n
def lset : List (Option Value) → Nat → Option Value → List (Option Value)
  | [], _, _ => []
  | _ :: t, 0, v => v :: t
  | a :: t, n + 1, v => a :: lset t n v
def lvl (base : Nat) : Nat → List (Option Value) → List (Nat × Value)
  | _, [] => []
  | i, none :: t => lvl base (i + 1) t
  | i, some v :: t => (i, up base v) :: lvl base (i + 1) t
/-- the place before i holds no long -/
def okst : List (Option Value) → Nat → Bool
  | _, 0 => true
  | ls, i + 1 => match lget ls i with
    | some (.long _) => false
    | some (.double _) => false
    | _ => true
theorem lvl_get {base : Nat} : ∀ (ls : List (Option Value)) (i0 i : Nat) {v : Value}, lget ls i = some v → (i0 + i, up base v) ∈ lvl base i0 ls
  | [], _, _, _, e => by cases e
  | a :: t, i0, 0, v, e => by
    have e2 : a = some v := e
    subst e2
    exact List.mem_cons_self
  | a :: t, i0, i + 1, v, e => by
    have h := lvl_get (base := base) t (i0 + 1) i (v := v) e
    rw [show i0 + 1 + i = i0 + (i + 1) by omega] at h
    cases a with
    | none => exact h
    | some w => exact List.mem_cons_of_mem _ h
theorem lvl_inv {base : Nat} : ∀ (ls : List (Option Value)) (i0 : Nat) {q : Nat × Value}, q ∈ lvl base i0 ls → ∃ i v, lget ls i = some v ∧ q = (i0 + i, up base v)
  | [], _, _, h => by cases h
  | none :: t, i0, q, h => by
    obtain ⟨i, v, h1, h2⟩ := lvl_inv t (i0 + 1) (show q ∈ lvl base (i0 + 1) t from h)
    exact ⟨i + 1, v, h1, by rw [h2, show i0 + 1 + i = i0 + (i + 1) by omega]⟩
  | some w :: t, i0, q, h => by
    rcases List.mem_cons.mp (show q ∈ (i0, up base w) :: lvl base (i0 + 1) t from h) with h | h
    · exact ⟨0, w, rfl, h⟩
    · obtain ⟨i, v, h1, h2⟩ := lvl_inv t (i0 + 1) h
      exact ⟨i + 1, v, h1, by rw [h2, show i0 + 1 + i = i0 + (i + 1) by omega]⟩
theorem lget_lset : ∀ (ls : List (Option Value)) (i j : Nat) (o : Option Value) {v : Value}, lget (lset ls i o) j = some v → (j = i ∧ o = some v) ∨ (j ≠ i ∧ lget ls j = some v)
  | [], _, _, _, _, e => by cases e
  | a :: t, 0, 0, o, v, e => Or.inl ⟨rfl, e⟩
  | a :: t, 0, j + 1, o, v, e => Or.inr ⟨by omega, e⟩
  | a :: t, i + 1, 0, o, v, e => Or.inr ⟨by omega, e⟩
  | a :: t, i + 1, j + 1, o, v, e => by
    rcases lget_lset t i j o (v := v) e with ⟨h1, h2⟩ | ⟨h1, h2⟩
    · exact Or.inl ⟨by omega, h2⟩
    · exact Or.inr ⟨by omega, h2⟩
theorem okst_cat {ls : List (Option Value)} {i j : Nat} {v : Value} (ho : okst ls i = true) (hj : j + 1 = i) (hv : lget ls j = some v) : v.category = 1 := by
  subst hj
  have ho : (match lget ls j with
    | some (.long _) => false
    | some (.double _) => false
    | _ => true) = true := ho
  rw [hv] at ho
  cases v <;> first | rfl | cases ho
theorem lv_setI {base nL i : Nat} {ls : List (Option Value)} {A : Array Slot} {v : Value} (ho : okst ls i = true) (h : lv_has A nL ((i, up base v) :: (lvl base 0 ls).filter (fun q => !(q.1 == i) && !(q.1 + 1 == i && q.2.category == 2)))) : lv_has A nL (lvl base 0 (lset ls i (some v))) := by
  refine ⟨h.1, h.2.1, fun q hq => ?_⟩
  obtain ⟨j, w, h1, rfl⟩ := lvl_inv _ _ hq
  rw [Nat.zero_add]
  rcases lget_lset ls i j (some v) h1 with ⟨h2, h3⟩ | ⟨h2, h3⟩
  · have e3 := Option.some.inj h3
    subst e3
    subst h2
    exact h.2.2 _ List.mem_cons_self
  · refine h.2.2 (j, up base w) (List.mem_cons_of_mem _ (List.mem_filter.mpr ⟨?_, ?_⟩))
    · have := lvl_get (base := base) ls 0 j h3
      rwa [Nat.zero_add] at this
    · have hc : j + 1 = i → w.category = 1 := fun e => okst_cat ho e h3
      by_cases e : j + 1 = i
      · simp [h2, e, up_cat, hc e]
      · simp [h2, e]
theorem lv_setL {base nL i : Nat} {ls : List (Option Value)} {A : Array Slot} {v : Value} (ho : okst ls i = true) (h : lv_has A nL ((i, up base v) :: (lvl base 0 ls).filter (fun q => !(q.1 == i) && (!(q.1 == i + 1) && !(q.1 + 1 == i && q.2.category == 2))))) : lv_has A nL (lvl base 0 (lset (lset ls i (some v)) (i + 1) none)) := by
  refine ⟨h.1, h.2.1, fun q hq => ?_⟩
  obtain ⟨j, w, h1, rfl⟩ := lvl_inv _ _ hq
  rw [Nat.zero_add]
  rcases lget_lset _ (i + 1) j none h1 with ⟨h2, h3⟩ | ⟨h2', h3⟩
  · cases h3
  rcases lget_lset ls i j (some v) h3 with ⟨h2, h3⟩ | ⟨h2, h3⟩
  · have e3 := Option.some.inj h3
    subst e3
    subst h2
    exact h.2.2 _ List.mem_cons_self
  · refine h.2.2 (j, up base w) (List.mem_cons_of_mem _ (List.mem_filter.mpr ⟨?_, ?_⟩))
    · have := lvl_get (base := base) ls 0 j h3
      rwa [Nat.zero_add] at this
    · have hc : j + 1 = i → w.category = 1 := fun e => okst_cat ho e h3
      by_cases e : j + 1 = i
      · simp [h2, h2', e, up_cat, hc e]
      · simp [h2, h2', e]
/-! what is known of the tables at a method's entry -/
abbrev tysG (D : va_G) : List (ClassId × FieldType) := [(D.1 10, .int), (D.1 11, .boolean), (D.1 12, .array .int)]
def AOA (U : State) : Prop := (Cond.arrayOver (.array .int)).before #[] U = true
abbrev nw1 : Cond := .methodLinkNest "LampMoths" 19 ⟨"LampMoths$Lane", "<init>", "()V"⟩ "LampMoths"
abbrev nw2 : Cond := .methodLinkNest "LampMoths" 29 ⟨"LampMoths$Reader", "<init>", "()V"⟩ "LampMoths"
abbrev nw3 : Cond := .methodLinkNest "LampMoths$Reader" 46 ⟨"LampMoths", "isWind", "(I)Z"⟩ "LampMoths"
theorem AOA_spec {U : State} (h : AOA U) : ∃ comp c k, U.vm.findClass (FieldType.array .int).toString = some comp ∧ (U.vm.classes.findIdx? fun (x : Class) => match x.kind with | .array component _ => component == comp | _ => false) = some c ∧ U.vm.classes[c]? = some k ∧ k.kind = .array comp (.array .int) ∧ U.vm.findClass ("[" ++ (FieldType.array .int).toString) = some c := by
  unfold AOA Cond.before Cond.holds at h
  simp only [Cond.value, beq_iff_eq] at h
  cases hc : U.vm.findClass (FieldType.array .int).toString with
  | none => simp [hc] at h
  | some comp =>
    simp only [hc, Option.bind_some, Option.bind_eq_some_iff, Option.map_eq_some_iff] at h
    obtain ⟨c, hi, k, hk, hb⟩ := h
    obtain ⟨hlt, hp, -⟩ := Array.findIdx?_eq_some_iff_getElem.mp hi
    have hkk : U.vm.classes[c] = k := (Array.getElem?_eq_some_iff.mp hk).2
    rw [hkk] at hp
    cases hkind : k.kind with
    | array component ty =>
      rw [hkind] at hb hp
      simp at hb hp
      exact ⟨comp, c, k, rfl, hi, hk, by rw [hkind, hp, hb.1], hb.2⟩
    | _ => rw [hkind] at hb; simp at hb
theorem AOA.moved {u U : State} (hvm : u.vm.Alike U.vm) (h : AOA u) : AOA U := by
  obtain ⟨comp, c, k, h1, h2, h3, h4, h5⟩ := AOA_spec h
  obtain ⟨k', hk', he⟩ := hvm.2.2 _ _ h3
  have hi : (U.vm.classes.findIdx? fun (x : Class) => match x.kind with | .array component _ => component == comp | _ => false) = some c := by
    have e1 := va_idx_bare U.vm comp
    have e2 := va_idx_bare u.vm comp
    rw [hvm.bare_eq] at e1
    exact (e1.symm.trans e2).trans h2
  have hkind : k'.kind = .array comp (.array .int) := by rw [he]; exact h4
  have f1 : U.vm.findClass (FieldType.array .int).toString = some comp := by rw [hvm.findClass]; exact h1
  have f2 : U.vm.findClass ("[" ++ (FieldType.array .int).toString) = some c := by rw [hvm.findClass]; exact h5
  unfold AOA Cond.before Cond.holds
  simp only [Cond.value]
  rw [f1, Option.bind_some]
  refine (congrArg (fun o : Option Nat => (o.bind (fun c => (U.vm.classes[c]?).map fun (k : Class) => match k.kind with | .array _ ty => decide (ty = FieldType.array .int) && decide (U.vm.findClass ("[" ++ (FieldType.array .int).toString) = some c) | _ => false) == some true)) hi).trans ?_
  simp [hk', hkind, f2]
def KX (D : va_G) (U : State) : Prop := va_K D classes (tysG D) U ∧ va_Nw nw1 U ∧ va_Nw nw2 U ∧ va_Nw nw3 U ∧ AOA U
theorem KX.warm {D : va_G} {s U : State} (hW : s.WarmedH U.vm) (h : KX D s) : KX D U :=
  ⟨va_K.moved hW.alike h.1, va_Nw.warmM hW h.2.1, va_Nw.warmM hW h.2.2.1, va_Nw.warmM hW h.2.2.2.1, h.2.2.2.2.moved hW.alike⟩
theorem KX.same {D : va_G} {u U : State} (e : u.vm = U.vm) (h : KX D u) : KX D U :=
  ⟨va_K.moved (by rw [e]; exact Vm.Alike.refl U.vm) h.1, va_Nw.same rfl e h.2.1, va_Nw.same rfl e h.2.2.1, va_Nw.same rfl e h.2.2.2.1, h.2.2.2.2.moved (by rw [e]; exact Vm.Alike.refl U.vm)⟩
/-- the words that a call hands on -/
def lw_gt : List Cond := lw_tbl.filter goodWord
theorem gt_in {w : Cond} (h : w ∈ lw_gt) : w ∈ lw_tbl := (List.mem_filter.mp h).1
theorem gt_at {w : Cond} (i : Nat) (h : lw_tbl[i]? = some w) (hg : goodWord w = true) : w ∈ lw_gt := List.mem_filter.mpr ⟨List.mem_of_getElem? h, hg⟩
def wsM (M : MI) : List Cond := .code M.1 M.2.1 M.2.2.1 M.2.2.2.1 :: lw_gt
def CX (D : va_G) (base : Nat) (M : MI) (p : Program) (s : State) (m : MethodId) (args : Array Value) (meth : Method) (c : Code) : Prop :=
  p.tables.exec = Jvm.exec ∧ c.code = M.2.1 ∧ meth.sig.returnType = M.2.2.2.1 ∧ c.maxLocals = M.2.2.1 ∧ s.vm.findClass M.1.cls = some m.cls ∧ (∀ w ∈ lw_gt, w.before args s = true) ∧ meth.locks = false ∧ KX D s ∧ base ≤ s.heap.size ∧ meth.name = M.1.name
def PX (D : va_G) (base : Nat) (sh : List Sh) (h : Hp) (H : Heap) : Prop := H.size = base + sh.length ∧ va_P D classes (wl D base sh h) H
def QX (D : va_G) (base : Nat) (Q : List Sh → Hp → Option Value → Prop) : Array Value → State → Outcome → State → Prop := fun _ st oc t =>
  ∃ (sh : List Sh) (h : Hp) (r : Option Value), oc = .returned (r.map (up base)) ∧ Q sh h r ∧ PX D base sh h t.heap ∧ va_F (fun q => base ≤ q) st t
def WX (l : Launch) (D : va_G) (base : Nat) (z : Nat × Nat) (M : MI) (sh : List Sh) (pc : Nat) (ls : List (Option Value)) (st : List Value) (h : Hp) (Q : List Sh → Hp → Option Value → Prop) : Prop :=
  ∀ (p : Program) (e : Env) (s : State) (m : MethodId) (args : Array Value) (below : List Frame) (meth : Method) (c : Code), CX D base M p s m args meth c → ∀ (H : Heap) (locs : List Loc) (A : Array Slot), PX D base sh h H → va_S (fun q => base ≤ q) s.heap H locs → lv_has A M.2.2.1 (lvl base 0 ls) →
    W p l e M.2.2.2.2 s m args below meth c H locs (sh.length - z.1) (szs sh - z.2) (MQ below (QX D base Q) args s M.2.2.2.2.cells M.2.2.2.2.slots (fun q => base ≤ q)) (F0 m pc A (st.map (up base)))
/-- a method's contract, cells sh with contents h at its call -/
def SX (l : Launch) (D : va_G) (base : Nat) (M : MI) (sh : List Sh) (As : List Value) (h : Hp) (Q : List Sh → Hp → Option Value → Prop) : Prop :=
  Met l M.1 (wsM M) M.2.2.2.2 (va_Pc (As.map (up base)) (fun U => PX D base sh h U.heap ∧ KX D U)) (QX D base Q) M.2.2.2.2.cells M.2.2.2.2.slots (fun q => base ≤ q)
theorem SX.of {l : Launch} {D : va_G} {base : Nat} {M : MI} {sh : List Sh} {As : List Value} {h : Hp} {Q : List Sh → Hp → Option Value → Prop} (ls : List (Option Value)) (hy : plainName M.1.cls = true) (hls : lvl base 0 ls = lv_args 0 (As.map (up base))) (hn : (lg_sl (As.map (up base))).length ≤ M.2.2.1)
    (k : WX l D base (sh.length, szs sh) M sh 0 ls [] h Q) : SX l D base M sh As h Q := by
  refine Met.ofW (cc := M.2.1) (maxL := M.2.2.1) (ret := M.2.2.2.1) hy rfl ?_
  intro p e s m args below meth c s₁ B hml hv
  obtain ⟨rfl, hP, hK⟩ := hv
  have hts := atoms_spec (ws := wsM M) B.pre
  rw [lg_entry_eq]
  have hl := lv_entry (As.map (up base)) (n := M.2.2.1) hn
  rw [← hls] at hl
  have k1 := k p e s m _ below meth c ⟨B.exec, B.bytes, B.returns, hml, findClass_of_methodNamed B.named, fun w hw => hts w (List.mem_cons_of_mem _ hw), B.notSynchronized, hK, by have := hP.1; omega, (name_of_methodNamed B.named B.method).1⟩ s.heap [] _ hP va_S.rf hl
  rw [Nat.sub_self, Nat.sub_self] at k1
  exact k1
theorem wx_eq {l : Launch} {D : va_G} {base : Nat} {z : Nat × Nat} {M : MI} {sh : List Sh} {pc : Nat} {ls ls' : List (Option Value)} {st st' : List Value} {h h' : Hp} {Q : List Sh → Hp → Option Value → Prop} (k : WX l D base z M sh pc ls' st' h' Q) (h1 : ls = ls') (h2 : st = st') (h3 : h = h') : WX l D base z M sh pc ls st h Q := by
  subst h1; subst h2; subst h3; exact k

/-! multianewarray with two lengths, rows of ints: the machine's own loop, with what stands after i rows -/
/-- the outer array, i of its rows laid; the state after them -/
def mlO (h0 : Nat) (cA : ClassId) (N i : Nat) : Cell := arrV cA N (fun j => if j < i then .ref (h0 + 1 + j) else .null)
def mlT (T : State) (cA comp : ClassId) (N M : Nat) : Nat → State
  | 0 => T.pushCell (mlO T.heap.size cA N 0)
  | i + 1 => ((mlT T cA comp N M i).pushCell (arrV comp M (fun _ => .int 0))).setCell T.heap.size (mlO T.heap.size cA N (i + 1))
theorem mlO_s (h0 : Nat) (cA : ClassId) (N i : Nat) : (mlO h0 cA N i).setSlot i (.ref (h0 + 1 + i)) = mlO h0 cA N (i + 1) := by
  unfold mlO
  rw [arrV_store]
  congr 1
  funext j
  unfold updV
  by_cases e1 : j = i
  · rw [if_pos e1, if_pos (by omega), e1]
  · rw [if_neg e1]
    show (if j < i then Value.ref (h0 + 1 + j) else Value.null) = _
    by_cases e2 : j < i
    · rw [if_pos e2, if_pos (by omega)]
    · rw [if_neg e2, if_neg (by omega)]
section MAN
variable {E : CtlPost} {e : Env} {d : Bool} {acts : List Action} {s : State}
/-- a new array whose elements are all the default value -/
theorem ma_arr {c comp : ClassId} {k : Class} {ty : FieldType} {n : Nat} {v : Value} (hk : s.vm.classes[c]? = some k) (hkind : k.kind = .array comp ty) (h1 : n ≤ e.platform.arrayLengthLimit) (h2 : n * componentBytes ty ≤ e.platform.maxHeapBytes) (hf : fits ty v = true) (hd : v.isDefault = true) (h3 : s.heap.size < e.platform.maxCells) (h4 : s.slotsUsed + n ≤ e.platform.maxSlots) {Q : Addr → Pre} (hq : Q s.heap.size d acts (s.pushCell (arrV c n (fun _ => v)))) : wp (Jvm.newArray c n v) Q E e d acts s := by
  have a1 : allocActs (Array.replicate n v) s.heap.size acts = acts := by
    unfold allocActs
    rw [if_pos (by rw [Array.all_replicate]; split <;> simp [hd])]
  have a2 : ∀ i w, (Array.replicate n v)[i]? = some w → s.fitsSlot c .none i w = true := fun i w hw => by
    rw [Array.getElem?_replicate] at hw
    split at hw
    · cases hw
      simp [State.fitsSlot, State.slotType?, hk, hkind, hf]
    · cases hw
  have n1 : ¬ n > e.platform.arrayLengthLimit := Nat.not_lt.mpr h1
  have n2 : ¬ n * componentBytes ty > e.platform.maxHeapBytes := Nat.not_lt.mpr h2
  rw [← arrV_new] at hq
  simp only [Jvm.newArray, Jvm.arrayFits, wp_bind', W.ask, W.ite, n1, if_false, wp_pure', W.theClass, hk, hkind, n2, W.alloc, W.stop, Option.some.injEq, exists_eq_left', Array.size_replicate, a1]
  rw [if_neg (show ¬ n > e.platform.maxSlots by omega)]
  exact ⟨h3, h4, a2, hq⟩
theorem ma_row {comp cc : ClassId} {kc : Class} {x : Int32} {M : Nat} (hx : ¬ x < 0) (hM : x.toNatClampNeg = M) (hkc : s.vm.classes[comp]? = some kc) (hkind : kc.kind = .array cc .int) (h1 : M ≤ e.platform.arrayLengthLimit) (h2 : M * 4 ≤ e.platform.maxHeapBytes) (h3 : s.heap.size < e.platform.maxCells) (h4 : s.slotsUsed + M ≤ e.platform.maxSlots) {Q : Addr → Pre} (hq : Q s.heap.size d acts (s.pushCell (arrV comp M (fun _ => .int 0)))) : wp (Op.multianewarray.make comp [x]) Q E e d acts s := by
  subst hM
  rw [Op.multianewarray.make]
  simp only [wp_bind', W.ite, hx, if_false, wp_pure', W.theClass, hkc, hkind, Option.some.injEq, exists_eq_left']
  exact ma_arr hkc hkind h1 h2 rfl rfl h3 h4 hq
end MAN
section MAW
variable {p : Program} {l : Launch} {e : Env} {R : Room} {s : State} {m : MethodId} {args : Array Value} {below : List Frame} {meth : Method} {c : Code} {locs : List Loc} {cells slots : Nat}
theorem ml_all {T : State} (X : Stand p l e R s m args below meth c T locs cells slots) (cA comp : ClassId) (N M : Nat) : ∀ i : Nat, ∃ J : List Loc, Stand p l e R s m args below meth c (mlT T cA comp N M i) (locs ++ J) (cells + 1 + i) (slots + N + i * M) ∧ (∀ y ∈ J, s.heap.size ≤ y.base) ∧ (mlT T cA comp N M i).vm = T.vm ∧ (mlT T cA comp N M i).heap.size = T.heap.size + 1 + i ∧ (mlT T cA comp N M i).slotsUsed = T.slotsUsed + N + i * M ∧ (∀ q : Nat, q < T.heap.size → (mlT T cA comp N M i).heap[q]? = T.heap[q]?) ∧ (mlT T cA comp N M i).heap[T.heap.size]? = some (mlO T.heap.size cA N i) ∧ ∀ j : Nat, j < i → (mlT T cA comp N M i).heap[T.heap.size + 1 + j]? = some (arrV comp M (fun _ => .int 0))
  | 0 => by
    have X1 := X.pushed (mlO T.heap.size cA N 0)
    rw [show (mlO T.heap.size cA N 0).slots.size = N from arrV_size _ _ _] at X1
    refine ⟨[], by rw [List.append_nil, Nat.zero_mul]; exact X1, fun y hy => (by cases hy), rfl, ?_, ?_, fun q hq => State.heap_pushCell_of_lt _ _ hq, State.heap_pushCell_size _ _, fun j hj => absurd hj (Nat.not_lt_zero j)⟩
    · show (T.heap.push _).size = _
      rw [Array.size_push]
    · simp [mlT, mlO, arrV_size]
  | i + 1 => by
    obtain ⟨J, Xi, hJ, hv, hz, hu, ho, hA, hr⟩ := ml_all X cA comp N M i
    have lt0 : T.heap.size < (mlT T cA comp N M i).heap.size := by omega
    have hA1 : ((mlT T cA comp N M i).pushCell (arrV comp M (fun _ => .int 0))).heap[T.heap.size]? = some (mlO T.heap.size cA N i) := by rw [State.heap_pushCell_of_lt (h := lt0)]; exact hA
    have X2 := (Xi.pushed (arrV comp M (fun _ => .int 0))).stored hA1 i (.ref (T.heap.size + 1 + i))
    rw [arrV_size, mlO_s] at X2
    refine ⟨J ++ [⟨T.heap.size, i⟩], ?_, ?_, hv, ?_, ?_, ?_, State.heap_setCell_self hA1, ?_⟩
    · rw [← List.append_assoc, show slots + N + (i + 1) * M = slots + N + i * M + M by rw [Nat.succ_mul]; omega]
      exact X2
    · intro y hy
      rcases List.mem_append.mp hy with h | h
      · exact hJ y h
      · rw [List.mem_singleton.mp h]; exact X.same.2.1
    · show (((mlT T cA comp N M i).pushCell (arrV comp M (fun _ => .int 0))).setCell T.heap.size _).heap.size = _
      rw [size_setCell]
      show ((mlT T cA comp N M i).heap.push _).size = _
      rw [Array.size_push, hz]; omega
    · simp [mlT, hu, arrV_size, Nat.succ_mul]; omega
    · intro q hq
      show (((mlT T cA comp N M i).pushCell (arrV comp M (fun _ => .int 0))).setCell T.heap.size _).heap[q]? = _
      rw [State.heap_setCell_other (Nat.ne_of_gt hq), State.heap_pushCell_of_lt (h := Nat.lt_trans hq lt0)]
      exact ho q hq
    · intro j hj
      show (((mlT T cA comp N M i).pushCell (arrV comp M (fun _ => .int 0))).setCell T.heap.size _).heap[T.heap.size + 1 + j]? = _
      rw [State.heap_setCell_other (show T.heap.size ≠ T.heap.size + 1 + j by omega)]
      by_cases e1 : j = i
      · rw [e1, ← hz]; exact State.heap_pushCell_size _ _
      · rw [State.heap_pushCell_of_lt (h := show T.heap.size + 1 + j < (mlT T cA comp N M i).heap.size by omega)]
        exact hr j (by omega)
theorem W_multi {H : Heap} {Q : State → Prop} {cc : ByteArray} (hexec : p.tables.exec = Jvm.exec) (hb : c.code = cc) {own : String} {index : Nat} (hown : s.vm.findClass own = some m.cls) (hclink : (Cond.classLink own index ("[" ++ (FieldType.array .int).toString)).before args s = true) (hover : AOA s) (harr : (Cond.arrayClass .int).before args s = true)
    {pc : Nat} {ls : Array Slot} {rest : List Value} {n k : Int32} {N M : Nat} (hn : ¬ n < 0) (hk : ¬ k < 0) (hN : n.toNatClampNeg = N) (hM : k.toNatClampNeg = M) (hbN : N ≤ 1000) (hbM : M ≤ 1000) (hcells : cells + (1 + N) ≤ R.cells) (hslots : slots + (N + N * M) ≤ R.slots) (hdg : decode cc pc = .ok (.multianewarray index 2, 4))
    (kk : ∀ (H1 : Heap) (cA comp : ClassId), s.vm.findClass ("[" ++ (FieldType.array .int).toString) = some cA → s.vm.findClass (FieldType.array .int).toString = some comp → H1.size = H.size + 1 + N → (∀ q : Nat, q < H.size → H1[q]? = H[q]?) → H1[H.size]? = some (arrV cA N (fun j => if j < N then .ref (H.size + 1 + j) else .null)) → (∀ j : Nat, j < N → H1[H.size + 1 + j]? = some (arrV comp M (fun _ => .int 0))) →
      W p l e R s m args below meth c H1 locs (cells + 1 + N) (slots + N + N * M) Q (F0 m (pc + 4) ls (.ref H.size :: rest))) : W p l e R s m args below meth c H locs cells slots Q (F0 m pc ls (.int k :: .int n :: rest)) := by
  intro T hT X
  subst hb; subst hT
  have hpl : e.platform.magicAccessors = ({} : Platform).magicAccessors := by rw [X.admits.platform]
  obtain ⟨comp, cA, kA, hcomp, -, hkA, hkindA, hnameA⟩ := AOA_spec hover
  obtain ⟨comp', kC, cc', hcomp', hkC, hkindC⟩ := Cond.arrayClass_spec harr
  cases hcomp'.symm.trans hcomp
  obtain ⟨c0, hfc0, hcl⟩ := Cond.classLink_spec hown hclink e.platform hpl
  cases hnameA.symm.trans hfc0
  obtain ⟨hg₁, hwarm₁, hready₁⟩ := State.classEntry (e := e) X.warmed hcl
  generalize T.vm.noted (F0 m pc ls (.int k :: .int n :: rest)).method.cls index (.cls cA) = vm₁ at hg₁ hwarm₁ hready₁
  have hal : s.vm.Alike vm₁ := hwarm₁.alike
  obtain ⟨kA₁, hkA₁, heA⟩ := hal.2.2 _ _ hkA
  obtain ⟨kC₁, hkC₁, heC⟩ := hal.2.2 _ _ hkC
  have hkindA₁ : kA₁.kind = .array comp (.array .int) := by rw [heA]; exact hkindA
  have hkindC₁ : kC₁.kind = .array cc' .int := by rw [heC]; exact hkindC
  have X₁ := X.noted hwarm₁
  obtain ⟨hr1, hr2⟩ := X.roomAbove hcells hslots
  have hgr : s.heap.size ≤ T.heap.size := X.same.2.1
  have lim1 : 1000 ≤ e.platform.arrayLengthLimit := by rw [Launch.admits_arrayLengthLimit X.admits]; omega
  have lim2 : 4000 ≤ e.platform.maxHeapBytes := by rw [Launch.admits_maxHeapBytes X.admits]; omega
  obtain ⟨J, XF, hJ, hv, hz, hu, ho, hA, hr⟩ := ml_all X₁ cA comp N M N
  obtain ⟨t, a1, b1⟩ := kk (mlT (T.setVm vm₁) cA comp N M N).heap cA comp hnameA hcomp hz ho hA hr (mlT (T.setVm vm₁) cA comp N M N) rfl (XF.forget hJ)
  refine ⟨t, ?_, b1⟩
  have fN : [k].find? (· < 0) = none := by simp [hk]
  jvm_step X.here [hexec, hdg]
  simp only [Op.multianewarray.sem, wp_bind', W.resolveClassAt_links (State.method?_setTop (F0 m pc ls (.int k :: .int n :: rest)) X.here.top) hg₁]
  rw [W.popN, if_neg (by decide)]
  refine ⟨F0 m pc ls (.int k :: .int n :: rest), State.topJava?_setTop' (s := T.setVm vm₁) _ X.here.top, [.int n, .int k], rest, rfl, rfl, ?_⟩
  simp only [List.mapM_cons, List.mapM_nil, wp_bind', wp_pure']
  have eS : ((T.setTop (F0 m pc ls (.int k :: .int n :: rest))).setVm vm₁).setTop { F0 m pc ls (.int k :: .int n :: rest) with stack := rest } = (T.setVm vm₁).setTop (F0 m pc ls rest) := by
    show ((T.setVm vm₁).setTop _).setTop _ = _
    rw [State.setTop_setTop]
  rw [eS, Op.multianewarray.make]
  simp only [wp_bind', W.ite, hn, if_false, wp_pure', W.theClass, hkindA₁, Option.some.injEq, exists_eq_left']
  refine ⟨kA₁, hkA₁, ?_⟩
  subst hN
  simp only [hkindA₁, wp_bind']
  refine ma_arr (s := (T.setVm vm₁).setTop (F0 m pc ls rest)) hkA₁ hkindA₁ (by omega) (by show n.toNatClampNeg * 4 ≤ _; omega) rfl rfl (by show T.heap.size < _; omega) (by show T.slotsUsed + _ ≤ _; have := Nat.zero_le (n.toNatClampNeg * M); omega) ?_
  simp only [fN]
  rw [ite_self, wp_bind']
  rw [Std.Legacy.Range.forIn_eq_forIn_range']
  have hsz : ([:n.toNatClampNeg] : Std.Legacy.Range).size = n.toNatClampNeg := by simp [Std.Legacy.Range.size]
  rw [hsz]
  show wp (forIn (List.range' 0 n.toNatClampNeg 1) PUnit.unit _) _ _ e true [] _
  refine wp_forIn_inv (fun r s' => ∃ i, i ≤ n.toNatClampNeg ∧ r = List.range' i (n.toNatClampNeg - i) ∧ s' = (mlT (T.setVm vm₁) cA comp n.toNatClampNeg M i).setTop (F0 m pc ls rest)) _ _ ⟨0, Nat.zero_le _, rfl, ?_⟩ ?_ ?_
  · rfl
  · rintro x r s' d' acts' Q' ⟨i, hi, hl, rfl⟩ hnext
    have hilt : i < n.toNatClampNeg := by
      rcases Nat.lt_or_ge i n.toNatClampNeg with h | h
      · exact h
      · rw [show n.toNatClampNeg - i = 0 by omega] at hl; cases hl
    rw [show n.toNatClampNeg - i = (n.toNatClampNeg - (i + 1)) + 1 by omega, List.range'_succ] at hl
    cases hl
    obtain ⟨J2, Xi, hJ2, hv2, hz2, hu2, ho2, hA2, hR2⟩ := ml_all X₁ cA comp n.toNatClampNeg M x
    have hz3 : (mlT (T.setVm vm₁) cA comp n.toNatClampNeg M x).heap.size = T.heap.size + 1 + x := hz2
    have hu3 : (mlT (T.setVm vm₁) cA comp n.toNatClampNeg M x).slotsUsed = T.slotsUsed + n.toNatClampNeg + x * M := hu2
    have hxM : (x + 1) * M ≤ n.toNatClampNeg * M := Nat.mul_le_mul_right M hilt
    rw [Nat.succ_mul] at hxM
    rw [wp_bind']
    refine ma_row (s := (mlT (T.setVm vm₁) cA comp n.toNatClampNeg M x).setTop (F0 m pc ls rest)) hk hM (show (mlT (T.setVm vm₁) cA comp n.toNatClampNeg M x).vm.classes[comp]? = some kC₁ by rw [hv2]; exact hkC₁) hkindC₁ (by omega) (by omega) (show (mlT (T.setVm vm₁) cA comp n.toNatClampNeg M x).heap.size < _ by omega) (show (mlT (T.setVm vm₁) cA comp n.toNatClampNeg M x).slotsUsed + M ≤ _ by omega) ?_
    simp only [wp_bind', W.writeLoc, wp_pure']
    refine ⟨mlO T.heap.size cA n.toNatClampNeg x, ?_, ?_, ?_, ?_, ?_⟩
    · show ((mlT (T.setVm vm₁) cA comp n.toNatClampNeg M x).pushCell (arrV comp M (fun _ => .int 0))).heap[T.heap.size]? = _
      rw [State.heap_pushCell_of_lt (h := show T.heap.size < (mlT (T.setVm vm₁) cA comp n.toNatClampNeg M x).heap.size by omega)]
      exact hA2
    · exact fun q => by cases q
    · show _ < (arrV _ _ _).slots.size
      rw [arrV_size]
      exact hilt
    · have e9 : (mlT (T.setVm vm₁) cA comp n.toNatClampNeg M x).vm.classes[cA]? = some kA₁ := by rw [hv2]; exact hkA₁
      show State.fitsSlot _ cA .none x (.ref _) = true
      simp [State.fitsSlot, State.slotType?, e9, hkindA₁, fits]
    · refine hnext _ _ _ ⟨x + 1, hilt, rfl, ?_⟩
      rw [State.pushCell_setTop, State.setCell_setTop]
      show State.setTop (State.setCell _ _ ((mlO T.heap.size cA n.toNatClampNeg x).setSlot x (.ref (mlT (T.setVm vm₁) cA comp n.toNatClampNeg M x).heap.size))) _ = _
      rw [hz3, mlO_s]
      rfl
  · rintro s' d' acts' ⟨i, hi, hl, rfl⟩
    have hieq : i = n.toNatClampNeg := by
      rcases Nat.lt_or_ge i n.toNatClampNeg with h | h
      · rw [show n.toNatClampNeg - i = (n.toNatClampNeg - (i + 1)) + 1 by omega, List.range'_succ] at hl; cases hl
      · omega
    subst hieq
    simp only [wp_pure', wp_bind', W.mark, W.pushRef]
    refine ⟨F0 m pc ls rest, State.topJava?_setTop' (s := mlT (T.setVm vm₁) cA comp n.toNatClampNeg M n.toNatClampNeg) _ XF.here.top, ?_⟩
    intro acts
    rw [State.setTop_setTop]
    have a9 := afterInstr_ok e 4 (mlT (T.setVm vm₁) cA comp n.toNatClampNeg M n.toNatClampNeg) { F0 m pc ls rest with stack := .ref T.heap.size :: rest } acts
    exact Eq.mpr (congrArg (fun st => Steps p.tables e below st t) a9) a1
end MAW

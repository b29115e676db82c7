section CLR
variable {p : Program} {l : Launch} {e : Env} {R : Room} {s : State} {m : MethodId} {args : Array Value} {below : List Frame} {meth : Method} {c : Code} {H : Heap} {locs : List Loc} {cells slots : Nat} {Qf : State → Prop}
theorem W_call {D : va_G} {base : Nat} {pc : Nat} {A : Array Slot} {rest st0 : List Value} {a : Array Value} {H0 : Heap} {mc ms : Nat} {Q' : List Sh → Hp → Option Value → Prop} (hr : va_Run p l e R s m args below meth c H locs cells slots mc ms (F0 m pc A st0) rest (QX D base Q' a) (fun q => base ≤ q)) (hS : va_S (fun q => base ≤ q) H0 H locs)
    (kk : ∀ (sh' : List Sh) (h' : Hp) (r : Option Value) (H1 : Heap) (locs1 : List Loc), Q' sh' h' r → PX D base sh' h' H1 → va_S (fun q => base ≤ q) H0 H1 locs1 → W p l e R s m args below meth c H1 locs1 (cells + mc) (slots + ms) Qf (F0 m (pc + 3) A ((r.map (up base)).toList ++ rest))) : W p l e R s m args below meth c H locs cells slots Qf (F0 m pc A st0) := by
  intro T hT X
  obtain ⟨v, st₀, t, T', L, h0, X', hL, e1, e2, ⟨sh', h', r, hv, hq, hP1, hz, hk⟩, st⟩ := hr T hT X
  cases hv
  rw [h0] at hz hk
  obtain ⟨t2, a1, b1⟩ := kk sh' h' r T'.heap (locs ++ L) hq (by rw [e1]; exact hP1)
    ⟨Nat.le_trans hS.1 (by rw [e1]; exact hz), fun q h1 h2 => by rw [e1, hk q (Nat.lt_of_lt_of_le h1 hS.1) h2]; exact hS.2.1 q h1 h2, fun q hq => by
      rcases List.mem_append.mp hq with h | h
      · exact hS.2.2 q h
      · exact hL q h⟩ T' rfl X'
  exact ⟨t2, st t2 a1, b1⟩
end CLR
/-- a callee's words and name, n parameters -/
def okM (M' : MI) (n : Nat) : Prop := Cond.code M'.1 M'.2.1 M'.2.2.1 M'.2.2.2.1 ∈ lw_gt ∧ Cond.initialized M'.1.cls ∈ lw_gt ∧ (M'.1.cls ≠ "java/lang/invoke/MethodHandle" ∧ M'.1.cls ≠ "java/lang/invoke/VarHandle" ∧ (parseMethodDescriptor M'.1.desc).map (fun d => d.parameters.length) = some n)
/-- the room of a callee in its caller's -/
abbrev okR (M M' : MI) : Prop := M'.2.2.2.2.frames + 1 ≤ M.2.2.2.2.frames ∧ 8 + (M'.2.2.1 + 11) + M'.2.2.2.2.locals ≤ M.2.2.2.2.locals
theorem wsM_in {M' : MI} (h : Cond.code M'.1 M'.2.1 M'.2.2.1 M'.2.2.2.1 ∈ lw_gt) : GoodIn lw_gt (wsM M') := fun w hw => by
  rcases List.mem_cons.mp hw with e | hw
  · subst e; exact gt_good h
  · exact gt_good hw
theorem fb_pc (D : va_G) (base : Nat) (sh : List Sh) (h : Hp) (av : List Value) : FrameBlind (va_Pc av (fun U => PX D base sh h U.heap ∧ KX D U)) := fun a U g mk q => ⟨q.1, q.2.1, KX.same (u := U) (U := U.calling g mk a) rfl q.2.2⟩
section CLX
variable {l : Launch} {D : va_G} {base : Nat} {z : Nat × Nat} {M M' : MI} {sh : List Sh} {pc idx n : Nat} {ls : List (Option Value)} {st rest : List Value} {h : Hp} {Q Q' : List Sh → Hp → Option Value → Prop} {As : List Value}
theorem cb_of {p : Program} {s : State} {m : MethodId} {args : Array Value} {meth : Method} {c : Code} (C : CX D base M p s m args meth c) (hM : okM M' n) (hR : okR M M') (hl : Cond.methodLink M.1.cls idx M'.1 ∈ lw_gt) : CallB M.2.2.2.2 s args M.1.cls idx M'.1 M'.2.1 M'.2.2.1 M'.2.2.2.1 (wsM M') M'.2.2.2.2 M'.2.2.2.2.cells M'.2.2.2.2.slots n :=
  callB_of n (Ts := lw_gt) (fun w hw => C.2.2.2.2.2.1 w hw) (wsM_in hM.1) rfl rfl rfl (C.2.2.2.2.2.1 _ hM.2.1) (C.2.2.2.2.2.1 _ hl) hM.2.2 hR
theorem up_rev (As rest : List Value) (b : Nat) : (As.reverse ++ .ref b :: rest).map (up base) = (As.map (up base)).reverse ++ .ref (base + b) :: rest.map (up base) := by
  rw [List.map_append, List.map_reverse]; rfl
theorem up_sum (rest : List Value) : ((rest.map (up base)).map fun v => v.category).sum = (rest.map fun v => v.category).sum := by
  rw [List.map_map]; congr 1; apply List.map_congr_left; intro v _; exact up_cat base v
theorem r_up (r : Option Value) : (r.map (up base)).toList ++ rest.map (up base) = (r.toList ++ rest).map (up base) := by cases r <;> rfl
/-- a virtual call; the callee may make cells -/
theorem wx_callVG {b ci : Nat} {q : vw_C} {fl : List (Nat × Option Nat)} (hd : decode M.2.1 pc = .ok (.invokevirtual idx, 3)) (hM : okM M' n) (hR : okR M M') (hl : Cond.methodLink M.1.cls idx M'.1 ∈ lw_gt) (hi : Cond.instanceMethod M'.1 ∈ lw_gt) (hs : Cond.selects M'.1.cls M'.1 M'.1 ∈ lw_gt) (hsh : sh[b]? = some (.inr (ci, fl))) (hc : classes[ci]? = some q) (hq : q.1 = M'.1.cls)
    (hsp : SX l D base M' sh (.ref b :: As) h Q') (hn : As.length = n) (hst : st = As.reverse ++ .ref b :: rest) (hw : (rest.map fun v => v.category).sum ≤ 8) (hf : sh.length - z.1 + M'.2.2.2.2.cells ≤ M.2.2.2.2.cells ∧ szs sh - z.2 + M'.2.2.2.2.slots ≤ M.2.2.2.2.slots)
    (k : ∀ (sh' : List Sh) (h' : Hp) (r : Option Value), Q' sh' h' r → (sh.length - z.1 + M'.2.2.2.2.cells = sh'.length - z.1 ∧ szs sh - z.2 + M'.2.2.2.2.slots = szs sh' - z.2) ∧ WX l D base z M sh' (pc + 3) ls (r.toList ++ rest) h' Q) : WX l D base z M sh pc ls st h Q := by
  intro p e s m args below meth c C H locs A hP hS hL
  subst hst
  rw [up_rev]
  have hrecv := va_recv C.2.2.2.2.2.2.2.1.1 hP.2 hc (wl_get D base sh h hsh)
  rw [hq] at hrecv
  refine W_call (va_runV (C := M'.1.cls) (As := As.map (up base)) (rest := rest.map (up base)) ⟨C.1, C.2.1, C.2.2.2.1, C.2.2.2.2.1, fun w hw => C.2.2.2.2.2.1 w hw⟩ hsp ⟨cb_of C hM hR hl, C.2.2.2.2.2.1 _ hi, C.2.2.2.2.2.1 _ hs⟩ ⟨fb_pc D base sh h _, hrecv, fun U hU hW => ⟨rfl, by rw [hU]; exact hP, C.2.2.2.2.2.2.2.1.warm hW⟩⟩ rfl (by rw [List.length_map]; exact hn) hL.1 rfl (lv_room (by rw [up_sum]; exact hw)) hd hf) hS (fun sh' h' r H1 locs1 hq1 hP1 hS1 => ?_)
  obtain ⟨⟨e1, e2⟩, k1⟩ := k sh' h' r hq1
  rw [r_up, e1, e2]
  exact k1 p e s m args below meth c C H1 locs1 A hP1 hS1 hL
theorem wx_callSG (hd : decode M.2.1 pc = .ok (.invokestatic idx, 3)) (hM : okM M' n) (hR : okR M M') (hl : Cond.methodLink M.1.cls idx M'.1 ∈ lw_gt) (hi : Cond.static M'.1 ∈ lw_gt)
    (hsp : SX l D base M' sh As h Q') (hn : As.length = n) (hst : st = As.reverse ++ rest) (hw : (rest.map fun v => v.category).sum ≤ 8) (hf : sh.length - z.1 + M'.2.2.2.2.cells ≤ M.2.2.2.2.cells ∧ szs sh - z.2 + M'.2.2.2.2.slots ≤ M.2.2.2.2.slots)
    (k : ∀ (sh' : List Sh) (h' : Hp) (r : Option Value), Q' sh' h' r → (sh.length - z.1 + M'.2.2.2.2.cells = sh'.length - z.1 ∧ szs sh - z.2 + M'.2.2.2.2.slots = szs sh' - z.2) ∧ WX l D base z M sh' (pc + 3) ls (r.toList ++ rest) h' Q) : WX l D base z M sh pc ls st h Q := by
  intro p e s m args below meth c C H locs A hP hS hL
  subst hst
  rw [List.map_append, List.map_reverse]
  refine W_call (va_runS (As := As.map (up base)) (rest := rest.map (up base)) ⟨C.1, C.2.1, C.2.2.2.1, C.2.2.2.2.1, fun w hw => C.2.2.2.2.2.1 w hw⟩ hsp ⟨cb_of C hM hR hl, C.2.2.2.2.2.1 _ hi⟩ ⟨fb_pc D base sh h _, fun U hU hW => ⟨rfl, by rw [hU]; exact hP, C.2.2.2.2.2.2.2.1.warm hW⟩⟩ rfl (by rw [List.length_map]; exact hn) hL.1 rfl (lv_room (by rw [up_sum]; exact hw)) hd hf) hS (fun sh' h' r H1 locs1 hq1 hP1 hS1 => ?_)
  obtain ⟨⟨e1, e2⟩, k1⟩ := k sh' h' r hq1
  rw [r_up, e1, e2]
  exact k1 p e s m args below meth c C H1 locs1 A hP1 hS1 hL
/-- a static call of a nest mate's private method -/
theorem wx_callSN (hd : decode M.2.1 pc = .ok (.invokestatic idx, 3)) (hM : okM M' n) (hR : okR M M') {host : String} (hl : ∀ U, KX D U → va_Nw (.methodLinkNest M.1.cls idx M'.1 host) U) (hi : Cond.static M'.1 ∈ lw_gt)
    (hsp : SX l D base M' sh As h Q') (hn : As.length = n) (hst : st = As.reverse ++ rest) (hw : (rest.map fun v => v.category).sum ≤ 8) (hf : sh.length - z.1 + M'.2.2.2.2.cells ≤ M.2.2.2.2.cells ∧ szs sh - z.2 + M'.2.2.2.2.slots ≤ M.2.2.2.2.slots)
    (k : ∀ (sh' : List Sh) (h' : Hp) (r : Option Value), Q' sh' h' r → (sh.length - z.1 + M'.2.2.2.2.cells = sh'.length - z.1 ∧ szs sh - z.2 + M'.2.2.2.2.slots = szs sh' - z.2) ∧ WX l D base z M sh' (pc + 3) ls (r.toList ++ rest) h' Q) : WX l D base z M sh pc ls st h Q := by
  intro p e s m args below meth c C H locs A hP hS hL
  subst hst
  rw [List.map_append, List.map_reverse]
  refine W_call (va_runSN (As := As.map (up base)) (rest := rest.map (up base)) ⟨C.1, C.2.1, C.2.2.2.1, C.2.2.2.2.1, fun w hw => C.2.2.2.2.2.1 w hw⟩ hsp ⟨va_cnB n (Ts := lw_gt) (fun w hw => C.2.2.2.2.2.1 w hw) (wsM_in hM.1) rfl rfl rfl (hl s C.2.2.2.2.2.2.2.1) (C.2.2.2.2.2.1 _ hM.2.1) hM.2.2 hR, C.2.2.2.2.2.1 _ hi, trivial⟩ ⟨fb_pc D base sh h _, fun U hU hW => ⟨rfl, by rw [hU]; exact hP, C.2.2.2.2.2.2.2.1.warm hW⟩⟩ rfl (by rw [List.length_map]; exact hn) hL.1 rfl (lv_room (by rw [up_sum]; exact hw)) hd hf) hS (fun sh' h' r H1 locs1 hq1 hP1 hS1 => ?_)
  obtain ⟨⟨e1, e2⟩, k1⟩ := k sh' h' r hq1
  rw [r_up, e1, e2]
  exact k1 p e s m args below meth c C H1 locs1 A hP1 hS1 hL
end CLX

theorem Rel.w {h : Hp} (r : Rel h) : gI h 42 4 = gI h 2 6 ∧ gI h 42 6 = gI h 2 7 ∧ gI h 48 16 = gI h 2 8 ∧ gI h 48 17 = gI h 2 9 ∧ gI h 48 18 = gI h 2 10 ∧ gI h 42 17 = gI h 0 6 ∧ gI h 42 20 = gI h 0 12 ∧ gI h 42 2 = gI h 0 1 := by
  obtain ⟨n, m, ⟨⟨-, a2, a3⟩, ⟨-, b2, b3⟩, -, -, -, -, -, s4, s5, s6⟩, -, ⟨na, ⟨-, d1, d2⟩, -⟩, -, ⟨nc, ⟨-, e1, e2⟩, -⟩, ⟨len, ⟨-, f1, f2⟩, -⟩, -⟩ := r
  exact ⟨a3.trans a2.symm, b3.trans b2.symm, s4.symm, s5.symm, s6.symm, d2.trans d1.symm, e2.trans e1.symm, f2.trans f1.symm⟩
theorem sm_pad {f g : Nat → Int32} : ∀ (d n : Nat), (∀ k, k < n → f k = g k) → (∀ k, n ≤ k → k < n + d → g k = 0) → smN f n = smN g (n + d)
  | 0, n, h1, _ => sm_congr n h1
  | d + 1, n, h1, h2 => by
    show smN f n = smN g (n + d) + g (n + d)
    rw [h2 (n + d) (by omega) (by omega), Int32.add_zero]
    exact sm_pad d n h1 (fun k q1 q2 => h2 k q1 (by omega))
theorem Rel.paid {h : Hp} (r : Rel h) : smN (fun k => gI h 6 k) (nW (laneS h 2)) = smN (fun k => gI h 48 (5 + k)) 5 ∧ ∀ k, k < nW (laneS h 2) → gI h 6 k = gI h 48 (5 + k) := by
  obtain ⟨n, m, ⟨⟨a1, a2, a3⟩, ⟨-, b2, b3⟩, -, -, s1, s2, -⟩, -⟩ := r
  have hW : nW (laneS h 2) = n := by show (gI h 2 6).toNatClampNeg = n; rw [a2]; exact cl_nI (by omega)
  have hk : ∀ k, k < n → gI h 6 k = gI h 48 (5 + k) := fun k hk => by
    have := (s1 k hk).2.2.1
    unfold nowR at this
    rwa [if_neg (by omega), if_neg (by omega), if_pos (by omega), show 11 + k - 11 = k by omega] at this
  rw [hW]
  refine ⟨?_, hk⟩
  have := sm_pad (f := fun k => gI h 6 k) (g := fun k => gI h 48 (5 + k)) (5 - n) n hk (fun k q1 q2 => s2 k q1 (by omega))
  rwa [show n + (5 - n) = 5 by omega] at this
theorem fc_dues {h : Hp} {f : Nat → Int32} {n : Nat} : FC h (fillA h (2 + 7) f n) := ⟨rfl, fun c j q => gI_fillN (fun z => q (by unfold scC; omega))⟩
theorem fm_thr {h : Hp} : FM h (sI h 42 0 0) := ⟨rfl, fun c j q => by rw [gI_sI, if_neg (fun z => q (by unfold scM; omega))]⟩
theorem fm_lay {h : Hp} {p : Nat} : FM h (layH h p) := ⟨rfl, fun c j q => lay_N (fun z => q (by unfold scM; omega)) (fun z => q (by unfold scM; omega))⟩
def abF (h : Hp) (w : Int32) : Int32 := if w = 0 then gI h 2 6 else if w = 1 then gI h 2 7 else if w = 2 then gI h 2 8 else if w = 3 then gI h 2 9 else if w = 4 then gI h 2 10 else if w = 5 then smN (fun k => gI h 6 k) (nW (laneS h 2)) else if w = 6 then allF (laneS h 2) else if w = 7 then readersF (laneS h 2) else if w = 8 then gI h 0 6 else if w = 9 then gI h 0 12 else if w = 10 then gI h 0 1 else -2
def wiF (h : Hp) (w t : Int32) : Int32 := if bI w (nW (laneS h 2)) = 0 then -1 else if t = 0 then laneS h 2 0 w.toNatClampNeg else if t = 1 then laneS h 2 1 w.toNatClampNeg else if t = 2 then laneS h 2 2 w.toNatClampNeg else if t = 3 then owedF (laneS h 2) w.toNatClampNeg else if t = 4 then gI h 6 w.toNatClampNeg else if t = 5 then orN (fun j => hasB (drawsF (laneS h 2) j) w.toNatClampNeg) (nM (laneS h 2)) else if t = 6 then (if readF (laneS h 2) w.toNatClampNeg then 1 else 0) else -2
def moF (S : St) (w t : Int32) : Int32 := if bI w (nM S) = 0 then -1 else if t = 0 then S 3 w.toNatClampNeg else if t = 1 then S 4 w.toNatClampNeg else if t = 2 then drawsF S w.toNatClampNeg else if t = 3 then mostF S w.toNatClampNeg else -2
def plF2 (S : St) (w m : Int32) : Int32 := if bI w (nW S) = 0 then -1 else if bI m (nM S) = 0 then -1 else pullF S w.toNatClampNeg m.toNatClampNeg
theorem bI_k {k n : Nat} (hk : k < n) (hn : n < 2 ^ 31) : ¬ bI (nI k) n = 0 := by rw [bI_in hk hn]; decide
theorem bN_k {k n : Nat} (hk : k < n) (hn : n < 2 ^ 31) : 1 - bI (nI k) n = 0 := by rw [bI_in hk hn]; decide
theorem bN_n {w : Int32} {n : Nat} (h : bI w n = 0) : ¬ 1 - bI w n = 0 := by rw [h]; decide
/-- an int in a range of literals, told as a long -/
theorem inL (w : Int32) {a b : Int64} (x y : Int32) (ha : a.toInt = x.toInt) (hb : b.toInt = y.toInt) : (inF w.toInt64 a b = 0 ↔ w < x ∨ y < w) := by
  rw [in_lit w ha hb, i_lt, i_lt]
  by_cases h1 : w.toInt < x.toInt ∨ y.toInt < w.toInt
  · rw [if_pos h1]; exact ⟨fun _ => h1, fun _ => rfl⟩
  · rw [if_neg h1]; exact ⟨fun q => absurd q (by decide), fun q => absurd q h1⟩

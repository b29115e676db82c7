theorem i_lt (a b : Int32) : a < b ↔ a.toInt < b.toInt := Int32.lt_iff_toInt_lt
theorem i_le (a b : Int32) : a ≤ b ↔ a.toInt ≤ b.toInt := Int32.le_iff_toInt_le
theorem i_eq (a b : Int32) : a = b ↔ a.toInt = b.toInt := Int32.toInt_inj.symm
theorem i_0 : (0 : Int32).toInt = 0 := rfl
theorem i_1 : (1 : Int32).toInt = 1 := rfl
theorem in_lo {w : Int32} {n : Nat} (h : vp_in w n) : ¬ w < 0 := fun q => h (Or.inl q)
theorem in_hi {w : Int32} {n : Nat} (h : vp_in w n) (hn : n < 2 ^ 31) : ¬ nI n ≤ w := by
  have h1 := vp_in_iff.mp h
  rw [i_le, nI_toInt hn]
  omega
theorem in_of {w : Int32} {n : Nat} (hn : n < 2 ^ 31) (h1 : ¬ w < 0) (h2 : ¬ nI n ≤ w) : vp_in w n := by
  rw [i_lt, i_0] at h1
  rw [i_le, nI_toInt hn] at h2
  exact vp_in_iff.mpr (by omega)
theorem in_up {w : Int32} {n k : Nat} (h : vp_in w n) (hk : n ≤ k) : vp_in w k := by
  have h1 := vp_in_iff.mp h
  exact vp_in_iff.mpr (by omega)
theorem in_nI {k n : Nat} (h : k < n) (hn : n < 2 ^ 31) : vp_in (nI k) n := vp_in_nI h hn
theorem cl_nI {k : Nat} (h : k < 2 ^ 31) : (nI k).toNatClampNeg = k := nI_clamp h
/-- whether w is one of n -/
def bI (w : Int32) (n : Nat) : Int32 := if w < 0 ∨ nI n ≤ w then 0 else 1
theorem bI_no {w : Int32} {n : Nat} (h : w < 0 ∨ nI n ≤ w) : bI w n = 0 := if_pos h
theorem bI_yes {w : Int32} {n : Nat} (h1 : ¬ w < 0) (h2 : ¬ nI n ≤ w) : bI w n = 1 := if_neg (fun q => q.elim h1 h2)
theorem bI_in {k n : Nat} (hk : k < n) (hn : n < 2 ^ 31) : bI (nI k) n = 1 := bI_yes (in_lo (in_nI hk hn)) (in_hi (in_nI hk hn) hn)
theorem bI_two {w : Int32} {n : Nat} (hn : n < 2 ^ 31) : bI w n = 0 ∨ ∃ k, k < n ∧ w = nI k := by
  by_cases h : w < 0 ∨ nI n ≤ w
  · exact Or.inl (bI_no h)
  · exact Or.inr (vp_in_of (in_of hn (fun q => h (Or.inl q)) (fun q => h (Or.inr q))) hn)
def cmpI (x y : Int32) : Int32 := if y ≤ x then (if x = y then 0 else 1) else -1
abbrev ushr (x y : Int32) : Int32 := (x.toUInt32 >>> (y.toUInt32 &&& Int32.toUInt32 31)).toInt32
def bitC (x0 : Int32) : Int32 :=
  let x1 := x0 - (ushr x0 1 &&& 1431655765)
  let x2 := (x1 &&& 858993459) + (ushr x1 2 &&& 858993459)
  let x3 := (x2 + ushr x2 4) &&& 252645135
  let x4 := x3 + ushr x3 8
  let x5 := x4 + ushr x4 16
  x5 &&& 63
def ntzA (x n : Int32) : Int32 := n + ushr x 1
def ntzB (x n : Int32) : Int32 := if x ≤ 4 then ntzA x n else ntzA (ushr x 2) (n + 2)
def ntzC (x n : Int32) : Int32 := if x ≤ 16 then ntzB x n else ntzB (ushr x 4) (n + 4)
def ntzD (x n : Int32) : Int32 := if x ≤ 256 then ntzC x n else ntzC (ushr x 8) (n + 8)
def ntzE (x n : Int32) : Int32 := if x ≤ 65536 then ntzD x n else ntzD (ushr x 16) (n + 16)
def ntzF (x0 : Int32) : Int32 :=
  let x := (x0 ^^^ (-1)) &&& (x0 - 1)
  if 0 < x then ntzE x 1 else x &&& 32
/-! a street: rows 0 place, 1 burns, 2 kind (of windows), 3 seat, 4 kind (of moths), 5: how many windows, moths; the wind, the honey -/
abbrev St : Type := Nat → Nat → Int32
def nW (S : St) : Nat := (S 5 0).toNatClampNeg
def nM (S : St) : Nat := (S 5 1).toNatClampNeg
def glowF (kd b : Int32) : Int32 := if kd = 1 then b / 2 else if kd = 3 then b + 2 else b
def helpF (wd far : Int32) : Int32 := if (wd = 0 ∧ 0 < far) ∨ (wd = 2 ∧ far < 0) then 1 else 0
def swF (so hn pl : Int32) : Int32 := if so = 3 ∧ hn = pl then 3 else 0
def pullF (S : St) (w m : Nat) : Int32 :=
  if S 1 w = 0 then 0 else
    let v := glowF (S 2 w) (S 1 w) + helpF (S 5 2) (S 3 m - S 0 w) - absI (S 3 m - S 0 w) + swF (S 4 m) (S 5 3) (S 0 w)
    if v < 0 then 0 else v
def WFS (S : St) : Prop := (nW S ≤ 5 ∧ S 5 0 = nI (nW S)) ∧ (nM S ≤ 6 ∧ S 5 1 = nI (nM S)) ∧ (∀ k, k < nW S → (∃ p, p ≤ 8 ∧ S 0 k = nI p) ∧ (∃ p, p ≤ 9 ∧ S 1 k = nI p)) ∧ ∀ j, j < nM S → ∃ p, p ≤ 8 ∧ S 3 j = nI p
/-- the street in a lane at b -/
def laneS (h : Hp) (b : Nat) : St := fun r k => match r with
  | 0 => if k < (gI h b 6).toNatClampNeg then gI h (b + 1) k else 0
  | 1 => if k < (gI h b 6).toNatClampNeg then gI h (b + 2) k else 0
  | 2 => if k < (gI h b 6).toNatClampNeg then gI h (b + 3) k else 0
  | 3 => if k < (gI h b 7).toNatClampNeg then gI h (b + 5) k else 0
  | 4 => if k < (gI h b 7).toNatClampNeg then gI h (b + 6) k else 0
  | 5 => match k with
    | 0 => gI h b 6
    | 1 => gI h b 7
    | 2 => gI h b 8
    | 3 => gI h b 9
    | _ => 0
  | _ => 0
theorem la0 {h : Hp} {b k : Nat} (hk : k < nW (laneS h b)) : gI h (b + 1) k = laneS h b 0 k := (if_pos hk).symm
theorem la1 {h : Hp} {b k : Nat} (hk : k < nW (laneS h b)) : gI h (b + 2) k = laneS h b 1 k := (if_pos hk).symm
theorem la2 {h : Hp} {b k : Nat} (hk : k < nW (laneS h b)) : gI h (b + 3) k = laneS h b 2 k := (if_pos hk).symm
theorem la3 {h : Hp} {b k : Nat} (hk : k < nM (laneS h b)) : gI h (b + 5) k = laneS h b 3 k := (if_pos hk).symm
theorem la4 {h : Hp} {b k : Nat} (hk : k < nM (laneS h b)) : gI h (b + 6) k = laneS h b 4 k := (if_pos hk).symm
/-- pulls as the class reckons them -/
theorem pull_far : ∀ p, p < 9 → ∀ q, q < 9 → absI (nI p - nI q) = absI (nI q - nI p) ∧ (nI p < nI q ↔ 0 < nI q - nI p) ∧ (nI q < nI p ↔ nI q - nI p < 0) := by decide +kernel
theorem i32_swap (g w s o : Int32) : g + w + s - o = g + w - o + s := by
  rw [Int32.sub_eq_add_neg, Int32.sub_eq_add_neg, Int32.add_assoc (g + w), Int32.add_comm s, ← Int32.add_assoc]
theorem pull_class {S : St} (hS : WFS S) {k j : Nat} (hk : k < nW S) (hj : j < nM S) :
    pullF S k j = if S 1 k < 1 then 0 else maxI 0 (glowF (S 2 k) (S 1 k) + (if (S 5 2 = 0 ∧ S 0 k < S 3 j) ∨ (S 5 2 = 2 ∧ S 3 j < S 0 k) then 1 else 0) + (if S 4 j = 3 ∧ S 0 k = S 5 3 then 3 else 0) - absI (S 0 k - S 3 j)) := by
  obtain ⟨⟨p, hp, ep⟩, ⟨c, hc, ec⟩⟩ := hS.2.2.1 k hk
  obtain ⟨q, hq, eq⟩ := hS.2.2.2 j hj
  obtain ⟨f1, f2, f3⟩ := pull_far p (by omega) q (by omega)
  have h1 : (S 1 k < 1) ↔ S 1 k = 0 := by
    rw [ec, i_lt, i_eq, nI_toInt (by omega), i_0, i_1]; omega
  unfold pullF helpF swF maxI
  by_cases hz : S 1 k = 0
  · rw [if_pos hz, if_pos (h1.mpr hz)]
  · rw [if_neg hz, if_neg (fun q => hz (h1.mp q))]
    rw [eq, ep, f1]
    simp only [f2, f3]
    have e4 : (S 4 j = 3 ∧ S 5 3 = nI p) ↔ (S 4 j = 3 ∧ nI p = S 5 3) := ⟨fun q => ⟨q.1, q.2.symm⟩, fun q => ⟨q.1, q.2.symm⟩⟩
    simp only [e4, ← i32_swap]
    generalize glowF (S 2 k) (S 1 k) + _ + _ - _ = v
    by_cases hv : v < 0
    · rw [if_pos hv, if_neg]
      rw [i_lt, i_0] at hv ⊢; omega
    · rw [if_neg hv]
      by_cases h0 : 0 < v
      · rw [if_pos h0]
      · rw [if_neg h0]
        rw [i_lt, i_0] at hv h0
        rw [i_eq, i_0]; omega

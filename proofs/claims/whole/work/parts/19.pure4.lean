section DRP
variable {l : Launch} {D : va_G} {base : Nat} {M : MI} {pc pcj : Nat} {ls lsj : List (Option Value)} {st stj : List Value} {h hj : Hp} {Q : Hp → Option Value → Prop}
theorem wh_cut (k : WH l D base M pcj lsj stj hj Q) (f : WH l D base M pcj lsj stj hj Q → WH l D base M pc ls st h Q) : WH l D base M pc ls st h Q := f k
/-- a local that isn't needed any more -/
theorem wh_drop {i : Nat} {ls2 : List (Option Value)} (he : lset ls i none = ls2) (k : WH l D base M pc ls2 st h Q) : WH l D base M pc ls st h Q := by
  subst he
  intro p e s m args below meth c C H locs A hP hS hL
  refine k p e s m args below meth c C H locs A hP hS ⟨hL.1, hL.2.1, fun q hq => ?_⟩
  obtain ⟨j, v, h1, rfl⟩ := lvl_inv _ _ hq
  rcases lget_lset ls i j none h1 with ⟨-, h3⟩ | ⟨-, h3⟩
  · cases h3
  · exact hL.2.2 _ (lvl_get ls 0 j h3)
end DRP
theorem a0 (k : Nat) : (0 : Int32) + nI k = nI k := Int32.zero_add _
theorem a5 (k : Nat) : (5 : Int32) + nI k = nI (5 + k) := nI_add 5 k
theorem a10 (k : Nat) : (10 : Int32) + nI k = nI (10 + k) := nI_add 10 k
theorem a19 (k : Nat) : (19 : Int32) + nI k = nI (19 + k) := nI_add 19 k
def IsPage (p : Nat) : Prop := p = 48 ∨ p = 49
theorem pg_sh {p : Nat} (hp : IsPage p) : SH[p]? = some (.inl (0, 24)) := by rcases hp with rfl | rfl <;> rfl
/-- the street in a page of the reference -/
def pageS (h : Hp) (p : Nat) : St := fun r k => match r with
  | 0 => if k < (gI h 42 4).toNatClampNeg then gI h p (19 + k) else 0
  | 1 => if k < (gI h 42 4).toNatClampNeg then gI h p k else 0
  | 2 => if k < (gI h 42 4).toNatClampNeg then gI h 44 k else 0
  | 3 => if k < (gI h 42 6).toNatClampNeg then gI h p (10 + k) else 0
  | 4 => if k < (gI h 42 6).toNatClampNeg then gI h 45 k else 0
  | 5 => match k with
    | 0 => gI h 42 4
    | 1 => gI h 42 6
    | 2 => gI h p 16
    | 3 => gI h p 17
    | _ => 0
  | _ => 0
theorem pa0 {h : Hp} {p k : Nat} (hk : k < nW (pageS h p)) : gI h p (19 + k) = pageS h p 0 k := (if_pos hk).symm
theorem pa1 {h : Hp} {p k : Nat} (hk : k < nW (pageS h p)) : gI h p k = pageS h p 1 k := (if_pos hk).symm
theorem pa2 {h : Hp} {p k : Nat} (hk : k < nW (pageS h p)) : gI h 44 k = pageS h p 2 k := (if_pos hk).symm
theorem pa3 {h : Hp} {p k : Nat} (hk : k < nM (pageS h p)) : gI h p (10 + k) = pageS h p 3 k := (if_pos hk).symm
theorem pa4 {h : Hp} {p k : Nat} (hk : k < nM (pageS h p)) : gI h 45 k = pageS h p 4 k := (if_pos hk).symm
theorem pf_w {h : Hp} {p : Nat} (hS : WFS (pageS h p)) : gI h 42 4 = nI (nW (pageS h p)) := hS.1.2
theorem pf_m {h : Hp} {p : Nat} (hS : WFS (pageS h p)) : gI h 42 6 = nI (nM (pageS h p)) := hS.2.1.2
theorem page_ext {h h' : Hp} {p : Nat} (h4 : gI h' 42 4 = gI h 42 4) (h6 : gI h' 42 6 = gI h 42 6) (hp : ∀ j, gI h' p j = gI h p j) (h44 : ∀ j, gI h' 44 j = gI h 44 j) (h45 : ∀ j, gI h' 45 j = gI h 45 j) : pageS h' p = pageS h p := by
  funext r k
  unfold pageS
  rw [h4, h6, hp, hp, hp, hp, hp, h44, h45]
/-! whether a long lies in a range -/
def inF (v a b : Int64) : Int32 := if v < a then 0 else if b < v then 0 else 1
theorem lg_lt (x y : Int64) : lg_cmp x y < 0 ↔ x < y := by
  unfold lg_cmp
  by_cases h1 : x > y
  · rw [if_pos h1]
    have : ¬ x < y := fun q => by rw [Int64.lt_iff_toInt_lt] at q; have := Int64.lt_iff_toInt_lt.mp h1; omega
    simp [this]
  · rw [if_neg h1]
    by_cases h2 : x = y
    · subst h2; simp [Int64.lt_irrefl]
    · rw [if_neg h2]
      have h3 : x < y := by
        rw [Int64.lt_iff_toInt_lt]
        have h4 : ¬ y.toInt < x.toInt := fun q => h1 (Int64.lt_iff_toInt_lt.mpr q)
        have h5 : x.toInt ≠ y.toInt := fun q => h2 (Int64.toInt_inj.mp q)
        omega
      simp [h3]
theorem lg_gt (x y : Int64) : 0 < lg_cmp x y ↔ y < x := by
  unfold lg_cmp
  by_cases h1 : x > y
  · rw [if_pos h1]; simp; exact h1
  · rw [if_neg h1]
    by_cases h2 : x = y
    · rw [if_pos h2]; subst h2; simp [Int64.lt_irrefl]
    · rw [if_neg h2]; exact ⟨fun q => absurd q (by decide), fun q => absurd q h1⟩
theorem l_toI (x : Int32) : x.toInt64.toInt = x.toInt := Int32.toInt_toInt64 x
theorem in_bI (w : Int32) {n : Nat} (hn : n ≤ 6) : inF w.toInt64 0 (nI n - 1).toInt64 = bI w n := by
  have e : (nI n - 1).toInt = (n : Int) - 1 := by
    rw [show (1 : Int32) = nI 1 from rfl, pk_sub_toInt (by omega) (by omega)]; rfl
  unfold inF bI
  simp only [Int64.lt_iff_toInt_lt, i_lt, i_le, l_toI, e, nI_toInt (show n < 2 ^ 31 by omega), i_0]
  rw [show (0 : Int64).toInt = 0 from rfl]
  by_cases h1 : w.toInt < 0
  · rw [if_pos h1, if_pos (Or.inl h1)]
  · rw [if_neg h1]
    by_cases h2 : (n : Int) - 1 < w.toInt
    · rw [if_pos h2, if_pos (Or.inr (by omega))]
    · rw [if_neg h2, if_neg (fun q => by omega)]
theorem in_lit (w : Int32) {a b : Int64} {x y : Int} (ha : a.toInt = x) (hb : b.toInt = y) : inF w.toInt64 a b = if w.toInt < x ∨ y < w.toInt then 0 else 1 := by
  unfold inF
  simp only [Int64.lt_iff_toInt_lt, l_toI, ha, hb]
  by_cases h1 : w.toInt < x
  · rw [if_pos h1, if_pos (Or.inl h1)]
  · rw [if_neg h1]
    by_cases h2 : y < w.toInt
    · rw [if_pos h2, if_pos (Or.inr h2)]
    · rw [if_neg h2, if_neg (fun q => q.elim h1 h2)]
def manyN (d : Int32) : Nat → Int32
  | 0 => 0
  | k + 1 => manyN d k + ((d >>> (nI k &&& 31)) &&& 1)
theorem many_bit : ∀ e, e < 64 → manyN (nI e) 6 = bitC (nI e) := by decide +kernel
theorem near_in : ∀ p, p < 9 → ∀ q, q < 9 → (inF (nI p - nI q).toInt64 (-1) 1 = 0 ↔ nearF (nI p) (nI q) = false) := by decide +kernel
def powN (x : Int32) : Nat → Int32
  | 0 => 1
  | k + 1 => powN x k * x
def facN : Nat → Int32
  | 0 => 1
  | 1 => 1
  | k + 2 => facN (k + 1) * nI (k + 2)
theorem tax_swap (so : Int32) : (if so = 1 then (18 : Int32) else if so = 2 then 0 else 6) = taxF so := by
  unfold taxF
  by_cases h1 : so = 1
  · subst h1; decide
  · rw [if_neg h1]
    by_cases h2 : so = 2
    · rw [if_pos h2, if_pos h2]
    · rw [if_neg h2, if_neg h2, if_neg h1]
/-- the least of a small set, as the reference finds it -/
def lstN (d : Int32) (n : Nat) : Nat → Int32
  | 0 => -9
  | t + 1 => if hasB d (n - 1 - t) then nI (n - 1 - t) else lstN d n t
theorem lst_low : ∀ n, n < 6 → ∀ e, e < 2 ^ n → lstN (nI e) n n = if nI e = 0 then -9 else nI (lowB (nI e)) := by decide +kernel

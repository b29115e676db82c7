theorem sI_sI (h : Hp) (a k : Nat) (x y : Int32) : sI (sI h a k x) a k y = sI h a k y := hp_ext (fun c j => by rw [gI_sI, gI_sI, gI_sI]; by_cases q : c = a ∧ j = k; rw [if_pos q, if_pos q]; rw [if_neg q, if_neg q, if_neg q]) rfl
theorem gI_sS (h : Hp) (a k : Nat) (x : Int32) : gI (sI h a k x) a k = x := by rw [gI_sI, if_pos ⟨rfl, rfl⟩]
theorem fill_comm {h : Hp} {a b : Nat} {f g : Nat → Int32} {n m : Nat} (hab : a ≠ b) : fillA (fillA h a f n) b g m = fillA (fillA h b g m) a f n := hp_ext (fun c j => by
  rw [gI_fill, gI_fill, gI_fill, gI_fill]
  grind) rfl
/-- a stretch of an array written -/
def fillO (h : Hp) (a off : Nat) (f : Nat → Int32) (n : Nat) : Hp := setI h (fun c j => if c = a ∧ off ≤ j ∧ j < off + n then f (j - off) else gI h c j)
theorem gI_fo (h : Hp) (a off : Nat) (f : Nat → Int32) (n c j : Nat) : gI (fillO h a off f n) c j = if c = a ∧ off ≤ j ∧ j < off + n then f (j - off) else gI h c j := rfl
theorem fo_0 (h : Hp) (a off : Nat) (f : Nat → Int32) : fillO h a off f 0 = h := hp_ext (fun c j => by rw [gI_fo, if_neg (fun q => by omega)]) rfl
theorem fo_s (h : Hp) (a off : Nat) (f : Nat → Int32) (i : Nat) {v : Int32} (hv : v = f i) : sI (fillO h a off f i) a (off + i) v = fillO h a off f (i + 1) := hp_ext (fun c j => by
  rw [gI_sI, gI_fo, gI_fo]
  by_cases e : c = a ∧ j = off + i
  · rw [if_pos e, if_pos ⟨e.1, by omega, by omega⟩, hv, e.2, show off + i - off = i by omega]
  · rw [if_neg e]
    by_cases e2 : c = a ∧ off ≤ j ∧ j < off + i
    · rw [if_pos e2, if_pos ⟨e2.1, e2.2.1, by omega⟩]
    · rw [if_neg e2, if_neg (fun q => by rcases q with ⟨q1, q2, q3⟩; by_cases q4 : j = off + i; exact e ⟨q1, q4⟩; exact e2 ⟨q1, q2, by omega⟩)]) rfl
theorem fo_N {h : Hp} {a off : Nat} {f : Nat → Int32} {n c j : Nat} (hc : c ≠ a) : gI (fillO h a off f n) c j = gI h c j := by rw [gI_fo, if_neg (fun q => hc q.1)]
theorem fo_O {h : Hp} {a off : Nat} {f : Nat → Int32} {n j : Nat} (hj : j < off ∨ off + n ≤ j) : gI (fillO h a off f n) a j = gI h a j := by rw [gI_fo, if_neg (fun q => by omega)]
theorem fo_Y {h : Hp} {a off : Nat} {f : Nat → Int32} {n k : Nat} (hk : k < n) : gI (fillO h a off f n) a (off + k) = f k := by rw [gI_fo, if_pos ⟨rfl, by omega, by omega⟩, show off + k - off = k by omega]
theorem page_c {h h' : Hp} {p : Nat} (hp : IsPage p) (hc : ∀ c j, c = 42 ∨ c = 44 ∨ c = 45 ∨ c = p → gI h' c j = gI h c j) : pageS h' p = pageS h p := page_ext (hc 42 4 (by simp)) (hc 42 6 (by simp)) (fun j => hc p j (by simp)) (fun j => hc 44 j (by simp)) (fun j => hc 45 j (by simp))
theorem page_fill {h : Hp} {p a : Nat} {f : Nat → Int32} {n : Nat} (hp : IsPage p) (ha : 50 ≤ a) : pageS (fillA h a f n) p = pageS h p := page_c hp (fun c j hc => gI_fillN (by rcases hp with rfl | rfl <;> omega))
theorem page_sI {h : Hp} {p a k : Nat} {v : Int32} (hp : IsPage p) (ha : 50 ≤ a) : pageS (sI h a k v) p = pageS h p := page_c hp (fun c j hc => gI_sN (by rcases hp with rfl | rfl <;> omega))
/-- what layOwed lays -/
def layH (h : Hp) (p : Nat) : Hp := fillA (fillA h 56 (drawsF (pageS h p)) (nM (pageS h p))) 57 (owedF (pageS h p)) (nW (pageS h p))
theorem page_lay {h : Hp} {p : Nat} (hp : IsPage p) : pageS (layH h p) p = pageS h p := by unfold layH; rw [page_fill hp (by omega), page_fill hp (by omega)]
theorem has_many : ∀ e, e < 64 → ∀ k, k < 6 → hasB (nI e) k = true → ¬ bitC (nI e) = 0 := by decide +kernel
theorem cmp_step (to se : Int32) : (if se < to then (1 : Int32) else if to < se then -1 else 0) = cmpI to se := by
  unfold cmpI
  by_cases h1 : se < to
  · rw [if_pos h1, if_pos (by rw [i_lt] at h1; rw [i_le]; omega), if_neg (fun q => by subst q; exact absurd h1 (by rw [i_lt]; omega))]
  · rw [if_neg h1]
    by_cases h2 : to < se
    · rw [if_pos h2, if_neg (by rw [i_lt] at h2; rw [i_le]; omega)]
    · rw [if_neg h2, if_pos (by rw [i_lt] at h2; rw [i_le]; omega), if_pos (by rw [i_lt] at h1 h2; rw [i_eq]; omega)]
theorem cmp_self (x : Int32) : cmpI x x = 0 := by unfold cmpI; rw [if_pos (by rw [i_le]; omega), if_pos rfl]
/-- a night in a page -/
def ntP (h : Hp) (p : Nat) : Hp := sI (fillO (fillO (layH h p) p 5 (fun k => gI h p (5 + k) + owedF (pageS h p) k) (nW (pageS h p))) p 10 (fun j => pageS h p 3 j + stepF (pageS h p) j) (nM (pageS h p))) p 18 (gI h p 18 + 1)
theorem lay_N {h : Hp} {p c j : Nat} (hc : c ≠ 56) (hc2 : c ≠ 57) : gI (layH h p) c j = gI h c j := by unfold layH; rw [gI_fillN hc2, gI_fillN hc]
theorem lay_56 {h : Hp} {p j : Nat} (hj : j < nM (pageS h p)) : gI (layH h p) 56 j = drawsF (pageS h p) j := by unfold layH; rw [gI_fillN (by omega), gI_fillY hj]
theorem lay_57 {h : Hp} {p k : Nat} (hk : k < nW (pageS h p)) : gI (layH h p) 57 k = owedF (pageS h p) k := by unfold layH; rw [gI_fillY hk]
theorem nI9 {k : Nat} (h : k < 2 ^ 31) : ¬ nI k = -9 := by rw [i_eq, nI_toInt h]; show ¬ (k : Int) = -9; omega

def mxN (f : Nat → Int32) : Nat → Int32
  | 0 => 0
  | n + 1 => maxI (mxN f n) (f n)
def orN (p : Nat → Bool) : Nat → Int32
  | 0 => 0
  | n + 1 => if p n then orN p n ||| (1 <<< (nI n &&& 31)) else orN p n
def smN (f : Nat → Int32) : Nat → Int32
  | 0 => 0
  | n + 1 => smN f n + f n
def anyN (p : Nat → Bool) : Nat → Bool
  | 0 => false
  | n + 1 => anyN p n || p n
def hasB (d : Int32) (k : Nat) : Bool := decide ((d >>> (nI k &&& 31)) &&& 1 = 1)
def mostF (S : St) (j : Nat) : Int32 := mxN (fun k => pullF S k j) (nW S)
def drN (f : Nat → Int32) (n : Nat) : Int32 := orN (fun k => decide (0 < mxN f n ∧ f k = mxN f n)) n
def drawsF (S : St) (j : Nat) : Int32 := drN (fun k => pullF S k j) (nW S)
def taxF (so : Int32) : Int32 := if so = 2 then 0 else if so = 1 then 18 else 6
def dueN (S : St) (k : Nat) : Nat → Int32
  | 0 => 0
  | j + 1 => if hasB (drawsF S j) k then dueN S k j + taxF (S 4 j) / bitC (drawsF S j) else dueN S k j
def owedF (S : St) (k : Nat) : Int32 := if S 2 k = 2 then dueN S k (nM S) / 2 else dueN S k (nM S)
def allF (S : St) : Int32 := smN (owedF S) (nW S)
def nearF (x y : Int32) : Bool := decide (absI (x - y) ≤ 1)
def readF (S : St) (k : Nat) : Bool := decide (3 ≤ S 1 k) || anyN (fun o => decide (6 ≤ S 1 o) && nearF (S 0 o) (S 0 k)) (nW S)
def readersF (S : St) : Int32 := orN (readF S) (nW S)
def lowB (d : Int32) : Nat := (ntzF d).toNatClampNeg
def stepF (S : St) (j : Nat) : Int32 := if drawsF S j = 0 then 0 else cmpI (S 0 (lowB (drawsF S j))) (S 3 j)
theorem nI_inc (i : Nat) : nI i + Int32.ofInt 1 = nI (i + 1) := nI_1 i
theorem mx_ge (f : Nat → Int32) : ∀ (n k : Nat), k < n → f k ≤ mxN f n
  | n + 1, k, h => by
    show f k ≤ maxI (mxN f n) (f n)
    unfold maxI
    by_cases e : k = n
    · subst e
      by_cases c : mxN f k < f k
      · rw [if_pos c, i_le]; omega
      · rw [if_neg c]; rw [i_lt] at c; rw [i_le]; omega
    · have ih := mx_ge f n k (by omega)
      by_cases c : mxN f n < f n
      · rw [if_pos c]; rw [i_lt] at c; rw [i_le] at *; omega
      · rw [if_neg c]; exact ih
theorem mx_0 (f : Nat → Int32) : ∀ n, 0 ≤ mxN f n
  | 0 => by show (0 : Int32) ≤ 0; decide
  | n + 1 => by
    show 0 ≤ maxI (mxN f n) (f n)
    have ih := mx_0 f n
    unfold maxI
    by_cases c : mxN f n < f n
    · rw [if_pos c]; rw [i_lt] at c; rw [i_le] at *; omega
    · rw [if_neg c]; exact ih
theorem or_congr {p q : Nat → Bool} : ∀ (n : Nat), (∀ k, k < n → p k = q k) → orN p n = orN q n
  | 0, _ => rfl
  | n + 1, h => by
    show (if p n then orN p n ||| _ else orN p n) = (if q n then orN q n ||| _ else orN q n)
    rw [or_congr n (fun k hk => h k (by omega)), h n (by omega)]
theorem or_none {p : Nat → Bool} : ∀ (n : Nat), (∀ k, k < n → p k = false) → orN p n = 0
  | 0, _ => rfl
  | n + 1, h => by
    show (if p n then orN p n ||| _ else orN p n) = 0
    rw [h n (by omega), or_none n (fun k hk => h k (by omega))]
    rfl
theorem sm_congr {f g : Nat → Int32} : ∀ (n : Nat), (∀ k, k < n → f k = g k) → smN f n = smN g n
  | 0, _ => rfl
  | n + 1, h => by
    show smN f n + f n = smN g n + g n
    rw [sm_congr n (fun k hk => h k (by omega)), h n (by omega)]
theorem mx_congr {f g : Nat → Int32} : ∀ (n : Nat), (∀ k, k < n → f k = g k) → mxN f n = mxN g n
  | 0, _ => rfl
  | n + 1, h => by
    show maxI (mxN f n) (f n) = maxI (mxN g n) (g n)
    rw [mx_congr n (fun k hk => h k (by omega)), h n (by omega)]
theorem any_congr {p q : Nat → Bool} : ∀ (n : Nat), (∀ k, k < n → p k = q k) → anyN p n = anyN q n
  | 0, _ => rfl
  | n + 1, h => by
    show (anyN p n || p n) = (anyN q n || q n)
    rw [any_congr n (fun k hk => h k (by omega)), h n (by omega)]
theorem any_no {p : Nat → Bool} : ∀ (n : Nat), (∀ k, k < n → p k = false) → anyN p n = false
  | 0, _ => rfl
  | n + 1, h => by
    show (anyN p n || p n) = false
    rw [any_no n (fun k hk => h k (by omega)), h n (by omega)]
    rfl
theorem any_yes {p : Nat → Bool} : ∀ (n k : Nat), k < n → p k = true → anyN p n = true
  | n + 1, k, hk, h => by
    show (anyN p n || p n) = true
    by_cases e : k = n
    · subst e; rw [h]; simp
    · rw [any_yes n k (by omega) h]; rfl
/-- the drawers, window by window -/
theorem dr_gt {f : Nat → Int32} {i : Nat} (h : ¬ f i ≤ mxN f i) (h0 : ¬ f i ≤ 0) : drN f (i + 1) = (0 : Int32) ||| (1 <<< (nI i &&& 31)) := by
  have e : mxN f (i + 1) = f i := by
    show maxI (mxN f i) (f i) = f i
    unfold maxI; rw [if_pos]; rw [i_le] at h; rw [i_lt]; omega
  unfold drN
  rw [e]
  show (if decide (0 < f i ∧ f i = f i) then orN _ i ||| _ else orN _ i) = _
  rw [if_pos (by simp; rw [i_lt]; rw [i_le] at h0; omega), or_none i]
  intro k hk
  have := mx_ge f i k hk
  simp only [decide_eq_false_iff_not]
  rintro ⟨-, q⟩
  rw [q] at this
  exact h this
theorem dr_gt0 {f : Nat → Int32} {i : Nat} (h : ¬ f i ≤ mxN f i) (h0 : f i ≤ 0) : False := by
  have := mx_0 f i
  rw [i_le] at *
  omega
theorem mx_gt {f : Nat → Int32} {i : Nat} (h : ¬ f i ≤ mxN f i) : mxN f (i + 1) = f i := by
  show maxI (mxN f i) (f i) = f i
  unfold maxI; rw [if_pos]; rw [i_le] at h; rw [i_lt]; omega
theorem mx_le {f : Nat → Int32} {i : Nat} (h : f i ≤ mxN f i) : mxN f (i + 1) = mxN f i := by
  show maxI (mxN f i) (f i) = mxN f i
  unfold maxI; rw [if_neg]; rw [i_le] at h; rw [i_lt]; omega
theorem dr_le {f : Nat → Int32} {i : Nat} (h : f i ≤ mxN f i) (h0 : ¬ f i ≤ 0) (e : f i = mxN f i) : drN f (i + 1) = drN f i ||| (1 <<< (nI i &&& 31)) := by
  unfold drN
  rw [mx_le h]
  show (if decide (0 < mxN f i ∧ f i = mxN f i) then orN _ i ||| _ else orN _ i) = _
  rw [if_pos]
  simp only [decide_eq_true_eq]
  refine ⟨?_, e⟩
  rw [← e, i_lt]; rw [i_le] at h0; omega
theorem dr_le0 {f : Nat → Int32} {i : Nat} (h : f i ≤ mxN f i) (h0 : f i ≤ 0 ∨ ¬ f i = mxN f i) : drN f (i + 1) = drN f i := by
  unfold drN
  rw [mx_le h]
  show (if decide (0 < mxN f i ∧ f i = mxN f i) then orN _ i ||| _ else orN _ i) = _
  rw [if_neg]
  simp only [decide_eq_true_eq]
  rintro ⟨q1, q2⟩
  rcases h0 with h0 | h0
  · rw [q2] at h0; rw [i_le] at h0; rw [i_lt] at q1; omega
  · exact h0 q2
/-! small sets as numbers -/
theorem or_step : ∀ n, n < 7 → ∀ e, e < 2 ^ n → (nI e ||| (1 <<< (nI n &&& 31))) = nI (e + 2 ^ n) := by decide +kernel
theorem or_nat (p : Nat → Bool) : ∀ n, n ≤ 6 → ∃ e, e < 2 ^ n ∧ orN p n = nI e
  | 0, _ => ⟨0, by decide, rfl⟩
  | n + 1, h => by
    obtain ⟨e, he, ee⟩ := or_nat p n (by omega)
    show ∃ e, e < 2 ^ (n + 1) ∧ (if p n then orN p n ||| _ else orN p n) = nI e
    rw [ee, Nat.pow_succ]
    by_cases c : p n
    · rw [if_pos c, or_step n (by omega) e he]
      exact ⟨e + 2 ^ n, by omega, rfl⟩
    · rw [if_neg c]
      exact ⟨e, by omega, rfl⟩
theorem many_0 : ∀ e, e < 64 → bitC (nI e) < 1 → ∀ k, k < 6 → hasB (nI e) k = false := by decide +kernel
theorem low_in : ∀ n, n < 6 → ∀ e, e < 2 ^ n → nI e ≠ 0 → lowB (nI e) < n ∧ ntzF (nI e) = nI (lowB (nI e)) := by decide +kernel
theorem low_out : ntzF 0 = 32 := by decide +kernel
theorem draws_nat {S : St} (hw : nW S ≤ 5) (j : Nat) : ∃ e, e < 2 ^ nW S ∧ drawsF S j = nI e := or_nat _ _ (by omega)
theorem draws_64 {S : St} (hw : nW S ≤ 5) (j : Nat) : ∃ e, e < 64 ∧ drawsF S j = nI e := by
  obtain ⟨e, h1, h2⟩ := draws_nat hw j
  exact ⟨e, Nat.lt_of_lt_of_le h1 (Nat.le_trans (Nat.pow_le_pow_right (by decide) hw) (by decide)), h2⟩
/-! the first n places of an array written -/
def fillA (h : Hp) (a : Nat) (f : Nat → Int32) (n : Nat) : Hp := (fun c j => if c = a ∧ j < n then f j else h.1 c j, h.2.1, h.2.2)
theorem gI_fill (h : Hp) (a : Nat) (f : Nat → Int32) (n c j : Nat) : gI (fillA h a f n) c j = if c = a ∧ j < n then f j else gI h c j := rfl
theorem gI_fillN {h : Hp} {a : Nat} {f : Nat → Int32} {n c j : Nat} (hc : c ≠ a) : gI (fillA h a f n) c j = gI h c j := by rw [gI_fill, if_neg (fun q => hc q.1)]
theorem gI_fillY {h : Hp} {a : Nat} {f : Nat → Int32} {n j : Nat} (hj : j < n) : gI (fillA h a f n) a j = f j := by rw [gI_fill, if_pos ⟨rfl, hj⟩]
theorem gI_fillO {h : Hp} {a : Nat} {f : Nat → Int32} {n j : Nat} (hj : n ≤ j) : gI (fillA h a f n) a j = gI h a j := by rw [gI_fill, if_neg (fun q => by omega)]
theorem hp_ext {h h' : Hp} (h1 : ∀ c j, gI h c j = gI h' c j) (h2 : h.2 = h'.2) : h = h' := Prod.ext (funext fun c => funext fun j => h1 c j) h2
theorem fill_0 (h : Hp) (a : Nat) (f : Nat → Int32) : fillA h a f 0 = h := hp_ext (fun c j => by rw [gI_fill, if_neg (fun q => by omega)]) rfl
theorem fill_s (h : Hp) (a : Nat) (f : Nat → Int32) (i : Nat) {v : Int32} (hv : v = f i) : sI (fillA h a f i) a i v = fillA h a f (i + 1) := hp_ext (fun c j => by
  rw [gI_sI, gI_fill, gI_fill]
  by_cases e : c = a ∧ j = i
  · rw [if_pos e, if_pos ⟨e.1, by omega⟩, hv, e.2]
  · rw [if_neg e]
    by_cases e2 : c = a ∧ j < i
    · rw [if_pos e2, if_pos ⟨e2.1, by omega⟩]
    · rw [if_neg e2, if_neg (fun q => by rcases q with ⟨q1, q2⟩; by_cases q3 : j = i; exact e ⟨q1, q3⟩; exact e2 ⟨q1, by omega⟩)]) rfl
theorem fill_skip {h : Hp} {a : Nat} {f : Nat → Int32} {i : Nat} (e : f i = gI h a i) : fillA h a f (i + 1) = fillA h a f i := hp_ext (fun c j => by
  rw [gI_fill, gI_fill]
  by_cases q : c = a ∧ j = i
  · rw [if_pos ⟨q.1, by omega⟩, if_neg (fun z => by omega), q.1, q.2, e]
  · by_cases q2 : c = a ∧ j < i
    · rw [if_pos q2, if_pos ⟨q2.1, by omega⟩]
    · rw [if_neg q2, if_neg (fun z => by rcases z with ⟨z1, z2⟩; by_cases z3 : j = i; exact q ⟨z1, z3⟩; exact q2 ⟨z1, by omega⟩)]) rfl
theorem fill_congr {h : Hp} {a : Nat} {f g : Nat → Int32} {n : Nat} (e : ∀ k, k < n → f k = g k) : fillA h a f n = fillA h a g n := hp_ext (fun c j => by
  rw [gI_fill, gI_fill]
  by_cases q : c = a ∧ j < n
  · rw [if_pos q, if_pos q, e j q.2]
  · rw [if_neg q, if_neg q]) rfl
theorem fill_fill (h : Hp) (a : Nat) (f g : Nat → Int32) (n : Nat) : fillA (fillA h a f n) a g n = fillA h a g n := hp_ext (fun c j => by
  rw [gI_fill, gI_fill, gI_fill]
  by_cases q : c = a ∧ j < n
  · rw [if_pos q, if_pos q]
  · rw [if_neg q, if_neg q, if_neg q]) rfl
theorem fill_id {h : Hp} {a : Nat} {f : Nat → Int32} {n : Nat} (e : ∀ k, k < n → f k = gI h a k) : fillA h a f n = h := hp_ext (fun c j => by
  rw [gI_fill]
  by_cases q : c = a ∧ j < n
  · rw [if_pos q, q.1, e j q.2]
  · rw [if_neg q]) rfl
theorem lane_ext {h h' : Hp} {b : Nat} (h0 : ∀ j, 6 ≤ j → j ≤ 9 → gI h' b j = gI h b j) (h1 : ∀ c j, b + 1 ≤ c → c ≤ b + 6 → c ≠ b + 4 → gI h' c j = gI h c j) : laneS h' b = laneS h b := by
  funext r k
  have e6 := h0 6 (by omega) (by omega)
  have e7 := h0 7 (by omega) (by omega)
  have e8 := h0 8 (by omega) (by omega)
  have e9 := h0 9 (by omega) (by omega)
  have f1 := h1 (b + 1) k (by omega) (by omega) (by omega)
  have f2 := h1 (b + 2) k (by omega) (by omega) (by omega)
  have f3 := h1 (b + 3) k (by omega) (by omega) (by omega)
  have f5 := h1 (b + 5) k (by omega) (by omega) (by omega)
  have f6 := h1 (b + 6) k (by omega) (by omega) (by omega)
  unfold laneS
  rw [e6, e7, e8, e9, f1, f2, f3, f5, f6]
theorem lane_dues {h : Hp} {b : Nat} {f : Nat → Int32} {n : Nat} : laneS (fillA h (b + 7) f n) b = laneS h b := lane_ext (fun j _ _ => gI_fillN (by omega)) (fun c j _ _ _ => gI_fillN (by omega))
/-- a loop with a counter -/
theorem wh_loop {l : Launch} {D : va_G} {base : Nat} {M : MI} {pc : Nat} {Q : Hp → Option Value → Prop} (n : Nat) (L : Nat → List (Option Value)) (Hh : Nat → Hp) (I : Nat → Prop) (hx : I n → WH l D base M pc (L n) [] (Hh n) Q) (hs : ∀ i, i < n → I i → (I (i + 1) → WH l D base M pc (L (i + 1)) [] (Hh (i + 1)) Q) → WH l D base M pc (L i) [] (Hh i) Q) (i : Nat) (hi : i ≤ n) (h0 : I i) : WH l D base M pc (L i) [] (Hh i) Q := by
  obtain ⟨r, hr⟩ : ∃ r, i + r = n := ⟨n - i, by omega⟩
  induction r generalizing i with
  | zero =>
    have e : i = n := by omega
    subst e
    exact hx h0
  | succ r ih => exact hs i (by omega) h0 (fun h1 => ih (i + 1) (by omega) h1 (by omega))

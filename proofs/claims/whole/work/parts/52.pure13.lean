def shC (F : Nat → Int32) (w : Nat) : Nat → Int32
  | 0 => 0
  | g + 1 => if hasB (nI g) w then shC F w g + F (g - 2 ^ w) else shC F w g
def shM (F : Nat → Int32) (w : Nat) : Nat → Int32
  | 0 => 0
  | g + 1 => if hasB (nI g) w then shM F w g else shM F w g + F g
def shLC (w : Nat) : Nat → List Nat
  | 0 => []
  | g + 1 => if hasB (nI g) w then shLC w g ++ [g - 2 ^ w] else shLC w g
def shLM (w : Nat) : Nat → List Nat
  | 0 => []
  | g + 1 => if hasB (nI g) w then shLM w g else shLM w g ++ [g]
theorem shC_f (F : Nat → Int32) (w : Nat) : ∀ g, shC F w g = (shLC w g).foldl (fun a k => a + F k) 0
  | 0 => rfl
  | g + 1 => by
    show (if hasB (nI g) w then shC F w g + F (g - 2 ^ w) else shC F w g) = (if hasB (nI g) w then shLC w g ++ [g - 2 ^ w] else shLC w g).foldl (fun a k => a + F k) 0
    by_cases c : hasB (nI g) w
    · rw [if_pos c, if_pos c, List.foldl_append, ← shC_f F w g]; rfl
    · rw [if_neg c, if_neg c, shC_f F w g]
theorem shM_f (F : Nat → Int32) (w : Nat) : ∀ g, shM F w g = (shLM w g).foldl (fun a k => a + F k) 0
  | 0 => rfl
  | g + 1 => by
    show (if hasB (nI g) w then shM F w g else shM F w g + F g) = (if hasB (nI g) w then shLM w g else shLM w g ++ [g]).foldl (fun a k => a + F k) 0
    by_cases c : hasB (nI g) w
    · rw [if_pos c, if_pos c, shM_f F w g]
    · rw [if_neg c, if_neg c, List.foldl_append, ← shM_f F w g]; rfl
theorem shL_eq : ∀ n, n < 6 → ∀ w, w < n → shLC w (2 ^ n) = shLM w (2 ^ n) := by decide +kernel
theorem sh_eq (F : Nat → Int32) {n w : Nat} (hn : n < 6) (hw : w < n) : shC F w (2 ^ n) = shM F w (2 ^ n) := by rw [shC_f, shM_f, shL_eq n hn w hw]
theorem and_bit : ∀ g, g < 32 → ∀ w, w < 5 → (nI g &&& nI (2 ^ w) = 0 ↔ hasB (nI g) w = false) := by decide +kernel
theorem bit_leA : ∀ n, n < 6 → ∀ g, g < 2 ^ n → ∀ w, w < n → (hasB (nI g) w && !(decide (2 ^ w ≤ g) && decide (bn (g - 2 ^ w) < n))) = false := by decide +kernel
theorem bit_leB : ∀ n, n < 6 → ∀ g, g < 2 ^ n → ∀ w, w < n → (!hasB (nI g) w && !(decide (g + 2 ^ w < 2 ^ n) && (decide (nI g ||| nI (2 ^ w) = nI (g + 2 ^ w)) && decide (bn g < n)))) = false := by decide +kernel
theorem bit_le (n : Nat) (hn : n < 6) (g : Nat) (hg : g < 2 ^ n) (w : Nat) (hw : w < n) : (hasB (nI g) w = true → 2 ^ w ≤ g ∧ bn (g - 2 ^ w) < n) ∧ (hasB (nI g) w = false → g + 2 ^ w < 2 ^ n ∧ nI g ||| nI (2 ^ w) = nI (g + 2 ^ w) ∧ bn g < n) := by
  have hA := bit_leA n hn g hg w hw
  have hB := bit_leB n hn g hg w hw
  refine ⟨fun c => ?_, fun c => ?_⟩
  · rw [c] at hA; simpa using hA
  · rw [c] at hB; simpa using hB
theorem bit_01 : ∀ g, g < 32 → ∀ w, w < 5 → (nI g >>> (nI w &&& 31) &&& 1 = 0 ↔ hasB (nI g) w = false) := by decide +kernel
theorem fac_2 : ∀ a, a < 5 → ∀ b, b < 5 → a + b < 5 → facN a * facN b = nI (facN a * facN b).toNatClampNeg ∧ (facN a * facN b).toNatClampNeg ≤ 24 := by decide +kernel
theorem fac_1 : ∀ a, a < 6 → facN a = nI (facN a).toNatClampNeg ∧ 0 < (facN a).toNatClampNeg ∧ (facN a).toNatClampNeg ≤ 120 := by decide +kernel
theorem add_I {a b : Int32} (h1 : -1073741824 < a.toInt + b.toInt) (h2 : a.toInt + b.toInt < 1073741824) : (a + b).toInt = a.toInt + b.toInt := by
  rw [Int32.toInt_add]
  exact Int.bmod_eq_of_le (by omega) (by omega)
theorem neg_I {a : Int32} (h1 : -1073741824 < a.toInt) (h2 : a.toInt < 1073741824) : (-a).toInt = -a.toInt := by
  rw [Int32.toInt_neg]
  exact Int.bmod_eq_of_le (by omega) (by omega)
theorem mul_I {a b : Int32} (h1 : -1073741824 < a.toInt * b.toInt) (h2 : a.toInt * b.toInt < 1073741824) : (a * b).toInt = a.toInt * b.toInt := by
  rw [Int32.toInt_mul]
  exact Int.bmod_eq_of_le (by omega) (by omega)
theorem abs_I {a : Int32} (h1 : -1073741824 < a.toInt) (h2 : a.toInt < 1073741824) : absI a = nI a.toInt.natAbs := by
  unfold absI
  by_cases c : 0 ≤ a
  · rw [if_pos c]
    rw [i_le, i_0] at c
    rw [i_eq, nI_toInt (by omega)]
    omega
  · rw [if_neg c]
    rw [i_le, i_0] at c
    rw [i_eq, nI_toInt (by omega), neg_I h1 h2]
    omega
def grS (S : St) (d : Int32) : St := rowS S (fun k => if hasB d k then S 1 k else 0)
theorem gr_wf {S : St} (hF : WFS S) (d : Int32) : WFS (grS S d) := wf_row hF (fun k hk => by
  obtain ⟨p, hp, e⟩ := (hF.2.2.1 k hk).2
  by_cases c : hasB d k
  · rw [if_pos c]; exact ⟨p, hp, e⟩
  · rw [if_neg c]; exact ⟨0, by omega, rfl⟩)
def grV (S : St) (g : Nat) : Int32 := allF (grS S (nI g))
def shT (S : St) (w g : Nat) : Int32 := facN (bn g) * facN (nW S - 1 - bn g) * (grV S (g + 2 ^ w) - grV S g)
theorem grV_nat {S : St} (hF : WFS S) (g : Nat) : ∃ d, d ≤ 540 ∧ grV S g = nI d := all_nat (by unfold grS; rw [nW_row]; exact hF.1.1) (by unfold grS; rw [nM_row]; exact hF.2.1.1)
theorem shT_bd {S : St} (hF : WFS S) {w g : Nat} (hb : bn g < nW S) : -12960 ≤ (shT S w g).toInt ∧ (shT S w g).toInt ≤ 12960 := by
  have hw := hF.1.1
  obtain ⟨x, hx, ex⟩ := grV_nat hF (g + 2 ^ w)
  obtain ⟨y, hy, ey⟩ := grV_nat hF g
  obtain ⟨e1, e2⟩ := fac_2 (bn g) (by omega) (nW S - 1 - bn g) (by omega) (by omega)
  unfold shT
  rw [e1, ex, ey]
  generalize (facN (bn g) * facN (nW S - 1 - bn g)).toNatClampNeg = c at e2
  have e3 : (nI x - nI y).toInt = (x : Int) - y := pk_sub_toInt (by omega) (by omega)
  have e4 : (nI c).toInt = (c : Int) := nI_toInt (by omega)
  have e5 : (c : Int) * ((x : Int) - y) ≤ 12960 := by
    have h1 : (c : Int) * ((x : Int) - y) ≤ c * 540 := Int.mul_le_mul_of_nonneg_left (by omega) (by omega)
    omega
  have e6 : -12960 ≤ (c : Int) * ((x : Int) - y) := by
    have h1 : (c : Int) * (-540) ≤ c * ((x : Int) - y) := Int.mul_le_mul_of_nonneg_left (by omega) (by omega)
    omega
  rw [mul_I (by rw [e3, e4]; omega) (by rw [e3, e4]; omega), e3, e4]
  exact ⟨e6, e5⟩
theorem shM_bd {S : St} (hF : WFS S) {w : Nat} (hw : w < nW S) : ∀ g : Nat, g ≤ 2 ^ nW S → -(12960 * (g : Int)) ≤ (shM (shT S w) w g).toInt ∧ (shM (shT S w) w g).toInt ≤ 12960 * (g : Int)
  | 0, _ => by
    show -(12960 * ((0 : Nat) : Int)) ≤ (0 : Int32).toInt ∧ (0 : Int32).toInt ≤ 12960 * ((0 : Nat) : Int)
    rw [i_0]; omega
  | g + 1, h => by
    obtain ⟨h1, h2⟩ := shM_bd hF hw g (by omega)
    have h5 := two_le5 hF.1.1
    show -(12960 * ((g + 1 : Nat) : Int)) ≤ (if hasB (nI g) w then shM (shT S w) w g else shM (shT S w) w g + shT S w g).toInt ∧ (if hasB (nI g) w then shM (shT S w) w g else shM (shT S w) w g + shT S w g).toInt ≤ 12960 * ((g + 1 : Nat) : Int)
    by_cases c : hasB (nI g) w
    · rw [if_pos c]; omega
    · rw [if_neg c]
      have hb := ((bit_le (nW S) (by have := hF.1.1; omega) g (by omega) w hw).2 (by simpa using c)).2.2
      obtain ⟨h3, h4⟩ := shT_bd (w := w) hF hb
      rw [add_I (by omega) (by omega)]
      omega
def shaF (S : St) (w b : Int32) : Int32 := if bI w (nW S) = 0 then -1 else frF (shM (shT S w.toNatClampNeg) w.toNatClampNeg (2 ^ nW S)) (shM (shT S w.toNatClampNeg) w.toNatClampNeg (2 ^ nW S)).toInt.natAbs (facN (nW S)).toNatClampNeg b
theorem sh_abs {S : St} (hF : WFS S) {w : Nat} (hw : w < nW S) : absI (shM (shT S w) w (2 ^ nW S)) = nI (shM (shT S w) w (2 ^ nW S)).toInt.natAbs ∧ (shM (shT S w) w (2 ^ nW S)).toInt.natAbs < 2 ^ 30 := by
  obtain ⟨h1, h2⟩ := shM_bd hF hw (2 ^ nW S) (Nat.le_refl _)
  have h5 := two_le5 hF.1.1
  exact ⟨abs_I (by omega) (by omega), by omega⟩

/-! what is owed is small -/
theorem tx_18 : ∀ e, e < 64 → ∀ k, k < 6 → hasB (nI e) k = true → 0 ≤ ((18 : Int32) / bitC (nI e)).toInt ∧ ((18 : Int32) / bitC (nI e)).toInt ≤ 18 := by decide +kernel
theorem tx_6 : ∀ e, e < 64 → ∀ k, k < 6 → hasB (nI e) k = true → 0 ≤ ((6 : Int32) / bitC (nI e)).toInt ∧ ((6 : Int32) / bitC (nI e)).toInt ≤ 18 := by decide +kernel
theorem tx_0 : ∀ e, e < 64 → ∀ k, k < 6 → hasB (nI e) k = true → 0 ≤ ((0 : Int32) / bitC (nI e)).toInt ∧ ((0 : Int32) / bitC (nI e)).toInt ≤ 18 := by decide +kernel
theorem due_nat {S : St} (hw : nW S ≤ 5) {k : Nat} (hk : k < 6) : ∀ j, ∃ d, d ≤ 18 * j ∧ dueN S k j = nI d
  | 0 => ⟨0, by omega, rfl⟩
  | j + 1 => by
    obtain ⟨d, hd, ed⟩ := due_nat hw hk j
    show ∃ d, d ≤ 18 * (j + 1) ∧ (if hasB (drawsF S j) k then dueN S k j + taxF (S 4 j) / bitC (drawsF S j) else dueN S k j) = nI d
    by_cases hh : hasB (drawsF S j) k = true
    · rw [if_pos hh, ed]
      obtain ⟨e, he, ee⟩ := draws_64 hw j
      rw [ee] at hh ⊢
      have key : 0 ≤ (taxF (S 4 j) / bitC (nI e)).toInt ∧ (taxF (S 4 j) / bitC (nI e)).toInt ≤ 18 := by
        unfold taxF
        by_cases h2 : S 4 j = 2
        · rw [if_pos h2]; exact tx_0 e he k hk hh
        · rw [if_neg h2]
          by_cases h1 : S 4 j = 1
          · rw [if_pos h1]; exact tx_18 e he k hk hh
          · rw [if_neg h1]; exact tx_6 e he k hk hh
      obtain ⟨t, ht, et⟩ := nI_back key.1 (n := 18) key.2 (by decide)
      rw [et, nI_add]
      exact ⟨d + t, by omega, rfl⟩
    · rw [if_neg hh]; exact ⟨d, by omega, ed⟩
theorem owed_nat {S : St} (hw : nW S ≤ 5) (hm : nM S ≤ 6) {k : Nat} (hk : k < 6) : ∃ d, d ≤ 108 ∧ owedF S k = nI d := by
  obtain ⟨d, hd, ed⟩ := due_nat hw hk (nM S)
  unfold owedF
  rw [ed]
  by_cases h2 : S 2 k = 2
  · rw [if_pos h2, show (2 : Int32) = nI 2 from rfl, pk_div (by omega) (by decide) (by decide)]
    exact ⟨d / 2, by omega, rfl⟩
  · rw [if_neg h2]; exact ⟨d, by omega, rfl⟩
theorem sm_nat {f : Nat → Int32} {b : Nat} : ∀ n, (∀ k, k < n → ∃ d, d ≤ b ∧ f k = nI d) → ∃ d, d ≤ b * n ∧ smN f n = nI d
  | 0, _ => ⟨0, by omega, rfl⟩
  | n + 1, h => by
    obtain ⟨d, hd, ed⟩ := sm_nat n (fun k hk => h k (by omega))
    obtain ⟨c, hc, ec⟩ := h n (by omega)
    show ∃ d, d ≤ b * (n + 1) ∧ smN f n + f n = nI d
    rw [ed, ec, nI_add]
    exact ⟨d + c, by rw [Nat.mul_succ]; omega, rfl⟩
theorem all_nat {S : St} (hw : nW S ≤ 5) (hm : nM S ≤ 6) : ∃ d, d ≤ 540 ∧ allF S = nI d := by
  obtain ⟨d, hd, ed⟩ := sm_nat (f := owedF S) (b := 108) (nW S) (fun k hk => owed_nat hw hm (by omega))
  exact ⟨d, by have : 108 * nW S ≤ 108 * 5 := Nat.mul_le_mul_left _ hw; omega, ed⟩
theorem all_9 {S : St} (hw : nW S ≤ 5) (hm : nM S ≤ 6) : ¬ allF S = -9 := by
  obtain ⟨d, hd, ed⟩ := all_nat hw hm
  rw [ed]; exact nI9 (by omega)
theorem row_nat {S : St} : ∀ n, n ≤ 5 → (∀ k, k < n → ∃ b, b ≤ 9 ∧ S 1 k = nI b) → ∃ q, q < 2 * 10 ^ n ∧ rowN S n = nI q
  | 0, _, _ => ⟨1, by decide, rfl⟩
  | n + 1, hn, h => by
    obtain ⟨q, hq, eq⟩ := row_nat n (by omega) (fun k hk => h k (by omega))
    obtain ⟨b, hb, eb⟩ := h n (by omega)
    show ∃ q, q < 2 * 10 ^ (n + 1) ∧ rowN S n * 10 + S 1 n = nI q
    rw [eq, eb, show (10 : Int32) = nI 10 from rfl, pk_mul, nI_add]
    exact ⟨q * 10 + b, by rw [Nat.pow_succ]; omega, rfl⟩
theorem row_9 {S : St} (hF : WFS S) : ¬ rowN S (nW S) = -9 := by
  obtain ⟨q, hq, eq⟩ := row_nat (nW S) hF.1.1 (fun k hk => (hF.2.2.1 k hk).2)
  rw [eq]
  have : 10 ^ nW S ≤ 10 ^ 5 := Nat.pow_le_pow_right (by decide) hF.1.1
  exact nI9 (by omega)
/-! burning by threes -/
def thS (S : St) (q : Nat) : St := fun r k => if r = 1 ∧ k < nW S then nI (q / 3 ^ (nW S - 1 - k) % 3 * 3) else S r k
theorem th_n {S : St} {q r k : Nat} (h : r ≠ 1) : thS S q r k = S r k := if_neg (fun z => h z.1)
theorem nW_th (S : St) (q : Nat) : nW (thS S q) = nW S := by unfold nW; rw [th_n (by decide)]
theorem nM_th (S : St) (q : Nat) : nM (thS S q) = nM S := by unfold nM; rw [th_n (by decide)]
theorem wf_th {S : St} (hF : WFS S) (q : Nat) : WFS (thS S q) := by
  refine ⟨by rw [nW_th, th_n (by decide)]; exact hF.1, by rw [nM_th, th_n (by decide)]; exact hF.2.1, fun k hk => ?_, fun j hj => ?_⟩
  · rw [nW_th] at hk
    refine ⟨by rw [th_n (by decide)]; exact (hF.2.2.1 k hk).1, ?_⟩
    unfold thS
    rw [if_pos ⟨rfl, hk⟩]
    exact ⟨_, by have := Nat.mod_lt (q / 3 ^ (nW S - 1 - k)) (show 0 < 3 by decide); omega, rfl⟩
  · rw [nM_th] at hj; rw [th_n (by decide)]; exact hF.2.2.2 j hj
/-- alike but for what burns -/
def simB (T S : St) : Prop := (∀ r k, r ≠ 1 → T r k = S r k) ∧ ∀ k, nW S ≤ k → T 1 k = S 1 k
theorem simB_nW {T S : St} (h : simB T S) : nW T = nW S := by unfold nW; rw [h.1 5 0 (by decide)]
theorem simB_th {T S : St} (h : simB T S) (q : Nat) : thS T q = thS S q := by
  funext r k
  unfold thS
  rw [simB_nW h]
  by_cases z : r = 1 ∧ k < nW S
  · rw [if_pos z, if_pos z]
  · rw [if_neg z, if_neg z]
    by_cases y : r = 1
    · subst y; exact h.2 k (by omega)
    · exact h.1 r k y
theorem sim_th (S : St) (q : Nat) : simB (thS S q) S := ⟨fun r k h => th_n h, fun k hk => if_neg (fun z => by omega)⟩
def chN (S : St) : Nat → Int32 × Int32
  | 0 => (-9, -9)
  | i + 1 => if readersF (thS S i) = (1 <<< (S 5 0 &&& 31)) - 1 ∧ ((chN S i).1 = -9 ∨ allF (thS S i) < (chN S i).1) then (allF (thS S i), rowN (thS S i) (nW S)) else chN S i
theorem ch_9 {S : St} (hF : WFS S) : ∀ i, ((chN S i).1 = -9 ↔ (chN S i).2 = -9)
  | 0 => ⟨fun _ => rfl, fun _ => rfl⟩
  | i + 1 => by
    by_cases z : readersF (thS S i) = (1 <<< (S 5 0 &&& 31)) - 1 ∧ ((chN S i).1 = -9 ∨ allF (thS S i) < (chN S i).1)
    · have e : chN S (i + 1) = (allF (thS S i), rowN (thS S i) (nW S)) := if_pos z
      rw [e]
      have h1 := all_9 (S := thS S i) (by rw [nW_th]; exact hF.1.1) (by rw [nM_th]; exact hF.2.1.1)
      have h2 := row_9 (wf_th hF i)
      rw [nW_th] at h2
      exact ⟨fun q => absurd q h1, fun q => absurd q h2⟩
    · have e : chN S (i + 1) = chN S i := if_neg z
      rw [e]; exact ch_9 hF i
def cheapF (S : St) (b : Int32) : Int32 := if nW S = 0 then -9 else if b = 0 then (chN S (3 ^ nW S)).1 else (chN S (3 ^ nW S)).2
theorem pow_3 : ∀ n, n < 6 → powN 3 n = nI (3 ^ n) := by decide +kernel
theorem pow_le5 {n : Nat} (h : n ≤ 5) : 3 ^ n ≤ 243 := Nat.le_trans (Nat.pow_le_pow_right (by decide) h) (by decide)
theorem lane_th {g : Hp} {q : Nat} : laneS (th3 g 10 (nW (laneS g 10)) q (nW (laneS g 10))) 10 = thS (laneS g 10) q := by
  have e : ∀ c j, c ≠ 12 → gI (th3 g 10 (nW (laneS g 10)) q (nW (laneS g 10))) c j = gI g c j := fun c j z => by rw [gI_th, if_neg (fun y => by omega)]
  have h2 : ∀ j, j < nW (laneS g 10) → gI (th3 g 10 (nW (laneS g 10)) q (nW (laneS g 10))) 12 j = nI (q / 3 ^ (nW (laneS g 10) - 1 - j) % 3 * 3) := fun j z => by rw [gI_th, if_pos ⟨rfl, by omega, z⟩]
  generalize th3 g 10 (nW (laneS g 10)) q (nW (laneS g 10)) = g' at *
  have e6 := e 10 6 (by decide)
  have key : ∀ k, (if k < (gI g' 10 6).toNatClampNeg then gI g' (10 + 2) k else 0) = thS (laneS g 10) q 1 k := fun k => by
    rw [e6]
    unfold thS
    by_cases z : k < (gI g 10 6).toNatClampNeg
    · rw [if_pos z, if_pos ⟨rfl, z⟩]; exact h2 k z
    · rw [if_neg z, if_neg (fun y => z y.2)]; exact (if_neg z).symm
  funext r k
  by_cases hr : r = 1
  · subst hr; exact key k
  · rw [th_n hr]
    have g1 := e 11 k (by decide)
    have g3 := e 13 k (by decide)
    have g5 := e 15 k (by decide)
    have g6 := e 16 k (by decide)
    unfold laneS
    rw [e6, e 10 7 (by decide), e 10 8 (by decide), e 10 9 (by decide), show gI g' (10 + 1) k = gI g (10 + 1) k from g1, show gI g' (10 + 3) k = gI g (10 + 3) k from g3, show gI g' (10 + 5) k = gI g (10 + 5) k from g5, show gI g' (10 + 6) k = gI g (10 + 6) k from g6]
    split <;> first | rfl | exact absurd rfl hr
theorem page_th {g g' : Hp} {q : Nat} {S : St} (hS : pageS g 48 = S) (hw : nW S ≤ 5) (hm : nM S ≤ 6) (e : ∀ c j, c ≠ 49 → gI g' c j = gI g c j) (e2 : ∀ j, nW S ≤ j → j < 24 → gI g' 49 j = gI g 48 j) (h2 : ∀ j, j < nW S → gI g' 49 j = nI (q / 3 ^ (nW S - 1 - j) % 3 * 3)) : pageS g' 49 = thS S q := by
  subst hS
  have e6 := e 42 4 (by decide)
  have key : ∀ k, (if k < (gI g' 42 4).toNatClampNeg then gI g' 49 k else 0) = thS (pageS g 48) q 1 k := fun k => by
    rw [e6]
    unfold thS
    by_cases z : k < (gI g 42 4).toNatClampNeg
    · rw [if_pos z, if_pos ⟨rfl, z⟩]; exact h2 k z
    · rw [if_neg z, if_neg (fun y => z y.2)]; exact (if_neg z).symm
  funext r k
  by_cases hr : r = 1
  · subst hr; exact key k
  · rw [th_n hr]
    have g0 : (if k < (gI g 42 4).toNatClampNeg then gI g' 49 (19 + k) else 0) = (if k < (gI g 42 4).toNatClampNeg then gI g 48 (19 + k) else 0) := by
      by_cases z : k < (gI g 42 4).toNatClampNeg
      · rw [if_pos z, if_pos z]
        have z' : k < nW (pageS g 48) := z
        exact e2 _ (by omega) (by omega)
      · rw [if_neg z, if_neg z]
    have g3 : (if k < (gI g 42 6).toNatClampNeg then gI g' 49 (10 + k) else 0) = (if k < (gI g 42 6).toNatClampNeg then gI g 48 (10 + k) else 0) := by
      by_cases z : k < (gI g 42 6).toNatClampNeg
      · rw [if_pos z, if_pos z]
        have z' : k < nM (pageS g 48) := z
        exact e2 _ (by omega) (by omega)
      · rw [if_neg z, if_neg z]
    unfold pageS
    rw [e6, e 42 6 (by decide), e2 16 (by omega) (by decide), e2 17 (by omega) (by decide), g0, g3, e 44 k (by decide), e 45 k (by decide)]
    split <;> first | rfl | exact absurd rfl hr

def setI (h : Hp) (f : Nat → Nat → Int32) : Hp := (f, h.2.1, h.2.2)
theorem gI_set (h : Hp) (f : Nat → Nat → Int32) (c j : Nat) : gI (setI h f) c j = f c j := rfl
/-- a lane's n windows and m moths copied -/
def cpN (h : Hp) (b a n m : Nat) : Hp := setI h (fun c j => if c = b ∧ 6 ≤ j ∧ j ≤ 10 then gI h a j else if b < c ∧ c ≤ b + 4 ∧ j < n then gI h (a + (c - b)) j else if b + 5 ≤ c ∧ c ≤ b + 6 ∧ j < m then gI h (a + (c - b)) j else gI h c j)
theorem gI_cp (h : Hp) (b a n m c j : Nat) : gI (cpN h b a n m) c j = if c = b ∧ 6 ≤ j ∧ j ≤ 10 then gI h a j else if b < c ∧ c ≤ b + 4 ∧ j < n then gI h (a + (c - b)) j else if b + 5 ≤ c ∧ c ≤ b + 6 ∧ j < m then gI h (a + (c - b)) j else gI h c j := rfl
theorem cp_0 (h : Hp) (b a : Nat) : sI (sI (sI (sI (sI h b 6 (gI h a 6)) b 7 (gI h a 7)) b 8 (gI h a 8)) b 9 (gI h a 9)) b 10 (gI h a 10) = cpN h b a 0 0 := hp_ext (fun c j => by
  simp only [gI_sI, gI_cp]
  grind (splits := 30)) rfl
theorem cp_n (h : Hp) (b a i : Nat) (hab : a + 7 < b ∨ b + 7 < a) : sI (sI (sI (sI (cpN h b a i 0) (b + 1) i (gI h (a + 1) i)) (b + 2) i (gI h (a + 2) i)) (b + 3) i (gI h (a + 3) i)) (b + 4) i (gI h (a + 4) i) = cpN h b a (i + 1) 0 := hp_ext (fun c j => by
  simp only [gI_sI, gI_cp]
  grind) rfl
theorem cp_m (h : Hp) (b a i : Nat) (hab : a + 7 < b ∨ b + 7 < a) : sI (sI (cpN h b a 5 i) (b + 5) i (gI h (a + 5) i)) (b + 6) i (gI h (a + 6) i) = cpN h b a 5 (i + 1) := hp_ext (fun c j => by
  simp only [gI_sI, gI_cp]
  grind) rfl
theorem cp_src {h : Hp} {b a n m c j : Nat} (hab : a + 7 < b ∨ b + 7 < a) (h1 : a ≤ c) (h2 : c ≤ a + 7) : gI (cpN h b a n m) c j = gI h c j := by
  rw [gI_cp]; grind
/-- a lane kept in a row: n windows, m moths, then wind, honey, nights if all is done -/
def svN (h : Hp) (b r n m t : Nat) : Hp := setI h (fun c j => if c = r then (if j < 5 then (if j < n then gI h (b + 2) j else gI h r j) else if j < 11 then (if j < 5 + m then gI h (b + 5) (j - 5) else gI h r j) else if j < 16 then (if j < 11 + n then gI h (b + 4) (j - 11) else gI h r j) else if j < 16 + t then gI h b (j - 8) else gI h r j) else gI h c j)
theorem gI_sv (h : Hp) (b r n m t c j : Nat) : gI (svN h b r n m t) c j = if c = r then (if j < 5 then (if j < n then gI h (b + 2) j else gI h r j) else if j < 11 then (if j < 5 + m then gI h (b + 5) (j - 5) else gI h r j) else if j < 16 then (if j < 11 + n then gI h (b + 4) (j - 11) else gI h r j) else if j < 16 + t then gI h b (j - 8) else gI h r j) else gI h c j := rfl
theorem sv_0 (h : Hp) (b r : Nat) : svN h b r 0 0 0 = h := hp_ext (fun c j => by
  simp only [gI_sv]
  grind (splits := 30)) rfl
theorem sv_n (h : Hp) (b r i : Nat) (hi : i < 5) : sI (sI (svN h b r i 0 0) r i (gI h (b + 2) i)) r (11 + i) (gI h (b + 4) i) = svN h b r (i + 1) 0 0 := hp_ext (fun c j => by
  simp only [gI_sI, gI_sv]
  grind (splits := 30)) rfl
theorem sv_m (h : Hp) (b r i : Nat) (hi : i < 6) : sI (svN h b r 5 i 0) r (5 + i) (gI h (b + 5) i) = svN h b r 5 (i + 1) 0 := hp_ext (fun c j => by
  simp only [gI_sI, gI_sv]
  grind (splits := 30)) rfl
theorem sv_t (h : Hp) (b r : Nat) : sI (sI (sI (svN h b r 5 6 0) r 16 (gI h b 8)) r 17 (gI h b 9)) r 18 (gI h b 10) = svN h b r 5 6 3 := hp_ext (fun c j => by
  simp only [gI_sI, gI_sv]
  grind (splits := 40)) rfl
theorem sv_out {h : Hp} {b r n m t c j : Nat} (hc : c ≠ r) : gI (svN h b r n m t) c j = gI h c j := by rw [gI_sv, if_neg hc]
/-- a lane taken from a row -/
def ldN (h : Hp) (b r n m t : Nat) : Hp := setI h (fun c j => if c = b + 2 ∧ j < n then gI h r j else if c = b + 4 ∧ j < n then gI h r (11 + j) else if c = b + 5 ∧ j < m then gI h r (5 + j) else if c = b ∧ 8 ≤ j ∧ j < 8 + t then gI h r (8 + j) else gI h c j)
theorem gI_ld (h : Hp) (b r n m t c j : Nat) : gI (ldN h b r n m t) c j = if c = b + 2 ∧ j < n then gI h r j else if c = b + 4 ∧ j < n then gI h r (11 + j) else if c = b + 5 ∧ j < m then gI h r (5 + j) else if c = b ∧ 8 ≤ j ∧ j < 8 + t then gI h r (8 + j) else gI h c j := rfl
theorem ld_0 (h : Hp) (b r : Nat) : ldN h b r 0 0 0 = h := hp_ext (fun c j => by
  simp only [gI_ld]
  grind (splits := 30)) rfl
theorem ld_n (h : Hp) (b r i : Nat) : sI (sI (ldN h b r i 0 0) (b + 2) i (gI h r i)) (b + 4) i (gI h r (11 + i)) = ldN h b r (i + 1) 0 0 := hp_ext (fun c j => by
  simp only [gI_sI, gI_ld]
  grind (splits := 30)) rfl
theorem ld_m (h : Hp) (b r i : Nat) : sI (ldN h b r 5 i 0) (b + 5) i (gI h r (5 + i)) = ldN h b r 5 (i + 1) 0 := hp_ext (fun c j => by
  simp only [gI_sI, gI_ld]
  grind (splits := 30)) rfl
theorem ld_t (h : Hp) (b r : Nat) : sI (sI (sI (ldN h b r 5 6 0) b 8 (gI h r 16)) b 9 (gI h r 17)) b 10 (gI h r 18) = ldN h b r 5 6 3 := hp_ext (fun c j => by
  simp only [gI_sI, gI_ld]
  grind (splits := 40)) rfl
theorem ld_row {h : Hp} {b r n m t j : Nat} (hr : b + 7 < r) : gI (ldN h b r n m t) r j = gI h r j := by rw [gI_ld]; grind
def canF (S : St) (w y : Int32) : Int32 := if w < 0 ∨ nI (nW S) ≤ w then 0 else if S 1 w.toNatClampNeg + y < 0 then 0 else if 9 < S 1 w.toNatClampNeg + y then 0 else 1
/-- row 3 moved as far as i -/
def moved (S : St) (i : Nat) : St := fun r k => if r = 3 ∧ k < i then S 3 k + stepF S k else S r k
theorem moved_n (S : St) (i r k : Nat) (hr : r ≠ 3) : moved S i r k = S r k := by unfold moved; rw [if_neg (fun q => hr q.1)]
theorem moved_hi (S : St) (i k : Nat) (hk : i ≤ k) : moved S i 3 k = S 3 k := by unfold moved; rw [if_neg (fun q => by omega)]
theorem moved_nW (S : St) (i : Nat) : nW (moved S i) = nW S := by unfold nW; rw [moved_n S i 5 0 (by decide)]
theorem moved_nM (S : St) (i : Nat) : nM (moved S i) = nM S := by unfold nM; rw [moved_n S i 5 1 (by decide)]
theorem pull_moved (S : St) (i k j : Nat) (hj : i ≤ j) : pullF (moved S i) k j = pullF S k j := by
  unfold pullF
  rw [moved_hi S i j hj, moved_n S i 1 k (by decide), moved_n S i 2 k (by decide), moved_n S i 0 k (by decide), moved_n S i 4 j (by decide), moved_n S i 5 2 (by decide), moved_n S i 5 3 (by decide)]
theorem draws_moved (S : St) (i j : Nat) (hj : i ≤ j) : drawsF (moved S i) j = drawsF S j := by
  unfold drawsF
  rw [moved_nW]
  have e : (fun k => pullF (moved S i) k j) = (fun k => pullF S k j) := funext fun k => pull_moved S i k j hj
  rw [e]
theorem step_moved (S : St) (i j : Nat) (hj : i ≤ j) : stepF (moved S i) j = stepF S j := by
  unfold stepF
  rw [draws_moved S i j hj, moved_n S i 0 _ (by decide), moved_hi S i j hj]
theorem step_in : ∀ p, p < 9 → ∀ q, q < 9 → (nI q + cmpI (nI p) (nI q)).toInt ≤ 8 ∧ 0 ≤ (nI q + cmpI (nI p) (nI q)).toInt := by decide +kernel
theorem nI_back {x : Int32} (h1 : 0 ≤ x.toInt) {n : Nat} (h2 : x.toInt ≤ n) (hn : n < 2 ^ 31) : ∃ r, r ≤ n ∧ x = nI r := by
  refine ⟨x.toInt.toNat, by omega, ?_⟩
  rw [i_eq, nI_toInt (by omega)]
  omega
theorem seat_in {S : St} (hF : WFS S) {j : Nat} (hj : j < nM S) : ∃ p, p ≤ 8 ∧ S 3 j + stepF S j = nI p := by
  obtain ⟨q, hq, eq⟩ := hF.2.2.2 j hj
  unfold stepF
  by_cases h0 : drawsF S j = 0
  · rw [if_pos h0, Int32.add_zero]; exact ⟨q, hq, eq⟩
  · rw [if_neg h0]
    obtain ⟨e, he, ee⟩ := draws_nat hF.1.1 j
    obtain ⟨l1, l2⟩ := low_in (nW S) (by have := hF.1.1; omega) e he (by rw [← ee]; exact h0)
    rw [← ee] at l1
    obtain ⟨⟨p, hp, ep⟩, -⟩ := hF.2.2.1 _ l1
    rw [ep, eq]
    have := step_in p (by omega) q (by omega)
    exact nI_back this.2 this.1 (by decide)
theorem wf_moved {S : St} (hF : WFS S) (i : Nat) (hi : i ≤ nM S) : WFS (moved S i) := by
  refine ⟨?_, ?_, ?_, ?_⟩
  · rw [moved_nW, moved_n S i 5 0 (by decide)]; exact hF.1
  · rw [moved_nM, moved_n S i 5 1 (by decide)]; exact hF.2.1
  · intro k hk
    rw [moved_nW] at hk
    rw [moved_n S i 0 k (by decide), moved_n S i 1 k (by decide)]
    exact hF.2.2.1 k hk
  · intro j hj
    rw [moved_nM] at hj
    by_cases c : j < i
    · unfold moved; rw [if_pos ⟨rfl, c⟩]; exact seat_in hF hj
    · rw [moved_hi S i j (by omega)]; exact hF.2.2.2 j hj
def nightS (S : St) : St := moved S (nM S)
theorem lane_seats {h : Hp} {b i : Nat} (hi : i ≤ nM (laneS h b)) : laneS (fillA h (b + 5) (fun j => laneS h b 3 j + stepF (laneS h b) j) i) b = moved (laneS h b) i := by
  funext r k
  have e6 : gI (fillA h (b + 5) (fun j => laneS h b 3 j + stepF (laneS h b) j) i) b 6 = gI h b 6 := gI_fillN (by omega)
  have e7 : gI (fillA h (b + 5) (fun j => laneS h b 3 j + stepF (laneS h b) j) i) b 7 = gI h b 7 := gI_fillN (by omega)
  by_cases hr : r = 3
  · subst hr
    show (if k < (gI _ b 7).toNatClampNeg then gI _ (b + 5) k else 0) = _
    rw [e7]
    by_cases hk : k < i
    · rw [if_pos (show k < (gI h b 7).toNatClampNeg from Nat.lt_of_lt_of_le hk hi), gI_fillY hk]
      unfold moved; rw [if_pos ⟨rfl, hk⟩]
    · rw [gI_fillO (by omega), moved_hi _ _ _ (by omega)]; rfl
  · rw [moved_n _ _ _ _ hr]
    have e8 : gI (fillA h (b + 5) (fun j => laneS h b 3 j + stepF (laneS h b) j) i) b 8 = gI h b 8 := gI_fillN (by omega)
    have e9 : gI (fillA h (b + 5) (fun j => laneS h b 3 j + stepF (laneS h b) j) i) b 9 = gI h b 9 := gI_fillN (by omega)
    have g1 : gI (fillA h (b + 5) (fun j => laneS h b 3 j + stepF (laneS h b) j) i) (b + 1) k = gI h (b + 1) k := gI_fillN (by omega)
    have g2 : gI (fillA h (b + 5) (fun j => laneS h b 3 j + stepF (laneS h b) j) i) (b + 2) k = gI h (b + 2) k := gI_fillN (by omega)
    have g3 : gI (fillA h (b + 5) (fun j => laneS h b 3 j + stepF (laneS h b) j) i) (b + 3) k = gI h (b + 3) k := gI_fillN (by omega)
    have g6 : gI (fillA h (b + 5) (fun j => laneS h b 3 j + stepF (laneS h b) j) i) (b + 6) k = gI h (b + 6) k := gI_fillN (by omega)
    generalize fillA h (b + 5) (fun j => laneS h b 3 j + stepF (laneS h b) j) i = h' at *
    unfold laneS
    rw [e6, e7, e8, e9, g1, g2, g3, g6]
    split <;> first | rfl | exact absurd rfl hr
theorem sI_id {h : Hp} {a k : Nat} {v : Int32} (e : v = gI h a k) : sI h a k v = h := hp_ext (fun c j => by rw [gI_sI]; by_cases q : c = a ∧ j = k; rw [if_pos q, q.1, q.2, e]; rw [if_neg q]) rfl
theorem gI_sN {h : Hp} {a k c j : Nat} {v : Int32} (hc : c ≠ a) : gI (sI h a k v) c j = gI h c j := by rw [gI_sI, if_neg (fun q => hc q.1)]
/-- a night in a lane -/
def ntH (h : Hp) (b : Nat) : Hp := sI (fillA (fillA (fillA h (b + 7) (owedF (laneS h b)) (nW (laneS h b))) (b + 4) (fun k => gI h (b + 4) k + owedF (laneS h b) k) (nW (laneS h b))) (b + 5) (fun j => laneS h b 3 j + stepF (laneS h b) j) (nM (laneS h b))) b 10 (gI h b 10 + 1)
def rowN (S : St) : Nat → Int32
  | 0 => 1
  | k + 1 => rowN S k * 10 + S 1 k
/-- burns from a place on by threes -/
def th3 (h : Hp) (b n q t : Nat) : Hp := setI h (fun c j => if c = b + 2 ∧ n ≤ j + t ∧ j < n then nI (q / 3 ^ (n - 1 - j) % 3 * 3) else gI h c j)
theorem gI_th (h : Hp) (b n q t c j : Nat) : gI (th3 h b n q t) c j = if c = b + 2 ∧ n ≤ j + t ∧ j < n then nI (q / 3 ^ (n - 1 - j) % 3 * 3) else gI h c j := rfl
theorem th_0 (h : Hp) (b n q : Nat) : th3 h b n q 0 = h := hp_ext (fun c j => by rw [gI_th, if_neg (fun z => by omega)]) rfl
theorem th_s (h : Hp) (b n q t k : Nat) (hk : k + t + 1 = n) : sI (th3 h b n q t) (b + 2) k (nI (q / 3 ^ t % 3 * 3)) = th3 h b n q (t + 1) := hp_ext (fun c j => by
  rw [gI_sI, gI_th, gI_th]
  by_cases e : c = b + 2 ∧ j = k
  · rw [if_pos e, if_pos ⟨e.1, by omega, by omega⟩, show n - 1 - j = t by omega]
  · rw [if_neg e]
    by_cases e2 : c = b + 2 ∧ n ≤ j + t ∧ j < n
    · rw [if_pos e2, if_pos ⟨e2.1, by omega, e2.2.2⟩]
    · rw [if_neg e2, if_neg]
      rintro ⟨z1, z2, z3⟩
      by_cases z4 : j = k
      · exact e ⟨z1, z4⟩
      · exact e2 ⟨z1, by omega, z3⟩) rfl

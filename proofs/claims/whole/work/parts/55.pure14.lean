def fg (c : Int32) (b : Nat) : Prop := ¬ (c - 48 < 0 ∨ nI b < c - 48)
theorem fg_d {c : Int32} {b : Nat} (hb : b ≤ 9) (h : fg c b) : ∃ d, d ≤ b ∧ c - 48 = nI d := by
  unfold fg at h
  rw [i_lt, i_lt, i_0, nI_toInt (by omega)] at h
  exact nI_back (by omega) (by omega) (by omega)
theorem fg_iff {c : Int32} {b d : Nat} (hb : b ≤ 9) (hd : d ≤ 9) (h : c - 48 = nI d) : fg c b ↔ d ≤ b := by
  unfold fg
  rw [h, i_lt, i_lt, i_0, nI_toInt (by omega), nI_toInt (by omega)]
  omega
theorem fg_9 {c : Int32} {b : Nat} (hb : b ≤ 9) (h : fg c b) : fg c 9 := by
  obtain ⟨d, h1, h2⟩ := fg_d hb h
  exact (fg_iff (by decide) (by omega) h2).mpr (by omega)
theorem fg_em (c : Int32) (b : Nat) : fg c b ∨ ¬ fg c b := by
  by_cases h : c - 48 < 0 ∨ nI b < c - 48
  · exact Or.inr (fun z => z h)
  · exact Or.inl h
def fgB (c : Int32) (b : Nat) : Bool := !decide (c - 48 < 0 ∨ nI b < c - 48)
theorem fgB_t {c : Int32} {b : Nat} (h : fg c b) : fgB c b = true := by
  unfold fgB
  rw [show decide (c - 48 < 0 ∨ nI b < c - 48) = false by simp only [decide_eq_false_iff_not]; exact h]; rfl
theorem fgB_f {c : Int32} {b : Nat} (h : ¬ fg c b) : fgB c b = false := by
  unfold fgB
  rw [show decide (c - 48 < 0 ∨ nI b < c - 48) = true by simp only [decide_eq_true_eq]; exact Classical.not_not.mp h]; rfl
abbrev RS : Type := Nat × Nat × Nat × St
def rd3 (n m : Nat) (T : St) (c : Int32) : Option RS := if c = 87 then (if n < 5 then some (4, n, m, T) else none) else if c = 77 ∧ m < 6 then some (7, n, m, T) else none
def rdS (d n m : Nat) (T : St) (c : Int32) : Option RS := match d with
  | 0 => if c = 76 then some (1, n, m, T) else none
  | 1 => if fgB c 2 then some (2, n, m, setS T 5 2 (c - 48)) else none
  | 2 => if fgB c 9 then some (3, n, m, setS T 5 3 (c - 48)) else none
  | 3 => rd3 n m T c
  | 4 => if fgB c 8 && !anyN (fun q => decide (T 0 q = c - 48)) n then some (5, n, m, setS T 5 4 (c - 48)) else none
  | 5 => if fgB c 9 then some (6, n, m, setS T 5 5 (c - 48)) else none
  | 6 => if fgB c 3 then some (3, n + 1, m, setS (setS (setS T 0 n (T 5 4)) 1 n (T 5 5)) 2 n (c - 48)) else none
  | 7 => if fgB c 8 then some (8, n, m, setS T 5 4 (c - 48)) else none
  | 8 => if fgB c 3 then some (3, n, m + 1, setS (setS T 3 m (T 5 4)) 4 m (c - 48)) else none
  | _ => none
def rdR (tx : Nat → Int32) : Nat → Nat → RS → Int32 × RS
  | 0, i, s => (if s.1 = 3 then -9 else nI i, s)
  | r + 1, i, s => match rdS s.1 s.2.1 s.2.2.1 s.2.2.2 (tx i) with
    | none => (nI i, s)
    | some s' => rdR tx r (i + 1) s'
def rd0 : RS := (0, 0, 0, fun _ _ => 0)
def rdF (tx : Nat → Int32) (len : Nat) : Int32 × RS := rdR tx len 0 rd0
theorem rd_some {tx : Nat → Int32} {len i : Nat} {s s' : RS} (hi : i < len) (h : rdS s.1 s.2.1 s.2.2.1 s.2.2.2 (tx i) = some s') : rdR tx (len - i) i s = rdR tx (len - (i + 1)) (i + 1) s' := by
  obtain ⟨r, hr⟩ : ∃ r, len - i = r + 1 := ⟨len - i - 1, by omega⟩
  rw [hr, show len - (i + 1) = r by omega]
  show (match rdS s.1 s.2.1 s.2.2.1 s.2.2.2 (tx i) with | none => (nI i, s) | some s' => rdR tx r (i + 1) s') = _
  rw [h]
theorem rd_none {tx : Nat → Int32} {len i : Nat} {s : RS} (hi : i < len) (h : rdS s.1 s.2.1 s.2.2.1 s.2.2.2 (tx i) = none) : rdR tx (len - i) i s = (nI i, s) := by
  obtain ⟨r, hr⟩ : ∃ r, len - i = r + 1 := ⟨len - i - 1, by omega⟩
  rw [hr]
  show (match rdS s.1 s.2.1 s.2.2.1 s.2.2.2 (tx i) with | none => (nI i, s) | some s' => rdR tx r (i + 1) s') = _
  rw [h]
theorem rd_end {tx : Nat → Int32} {len : Nat} {s : RS} : rdR tx (len - len) len s = (if s.1 = 3 then -9 else nI len, s) := by rw [Nat.sub_self]; rfl
theorem rd_congr {tx tx' : Nat → Int32} : ∀ (r i : Nat) (s : RS), (∀ k, i ≤ k → k < i + r → tx k = tx' k) → rdR tx r i s = rdR tx' r i s
  | 0, _, _, _ => rfl
  | r + 1, i, s, h => by
    show (match rdS s.1 s.2.1 s.2.2.1 s.2.2.2 (tx i) with | none => (nI i, s) | some s' => rdR tx r (i + 1) s') = (match rdS s.1 s.2.1 s.2.2.1 s.2.2.2 (tx' i) with | none => (nI i, s) | some s' => rdR tx' r (i + 1) s')
    rw [h i (Nat.le_refl _) (by omega)]
    cases rdS s.1 s.2.1 s.2.2.1 s.2.2.2 (tx' i) with
    | none => rfl
    | some s' => exact rd_congr r (i + 1) s' (fun k h1 h2 => h k (by omega) (by omega))
def WR (s : RS) : Prop := s.1 ≤ 8 ∧ s.2.1 ≤ 5 ∧ s.2.2.1 ≤ 6 ∧ (4 ≤ s.1 ∧ s.1 ≤ 6 → s.2.1 < 5) ∧ (7 ≤ s.1 → s.2.2.1 < 6) ∧ (∀ k, k < s.2.1 → (∃ p, p ≤ 8 ∧ s.2.2.2 0 k = nI p) ∧ ∃ p, p ≤ 9 ∧ s.2.2.2 1 k = nI p) ∧ (∀ j, j < s.2.2.1 → ∃ p, p ≤ 8 ∧ s.2.2.2 3 j = nI p) ∧ (s.1 = 5 ∨ s.1 = 6 ∨ s.1 = 8 → ∃ p, p ≤ 8 ∧ s.2.2.2 5 4 = nI p) ∧ (s.1 = 6 → ∃ p, p ≤ 9 ∧ s.2.2.2 5 5 = nI p)
theorem WR_0 : WR rd0 := ⟨by decide, by decide, by decide, by decide, by decide, fun k hk => absurd hk (Nat.not_lt_zero k), fun k hk => absurd hk (Nat.not_lt_zero k), fun z => by rcases z with z | z | z <;> exact absurd z (by decide), fun z => absurd z (by decide)⟩
theorem fgB_d {c : Int32} {b : Nat} (hb : b ≤ 9) (h : fgB c b = true) : ∃ d, d ≤ b ∧ c - 48 = nI d := by
  rcases fg_em c b with z | z
  · exact fg_d hb z
  · rw [fgB_f z] at h; exact absurd h (by decide)
theorem WR_s {d n m : Nat} {T : St} {c : Int32} {s' : RS} (h : WR (d, n, m, T)) (e : rdS d n m T c = some s') : WR s' := by
  obtain ⟨h1, h2, h3, h4, h5, h6, h7, h8, h9⟩ := h
  simp only at h1 h2 h3 h4 h5 h6 h7 h8 h9
  unfold rdS at e
  split at e
  · split at e
    · cases e; exact ⟨by simp, h2, h3, by simp, by simp, h6, h7, by simp, by simp⟩
    · cases e
  · split at e
    · cases e; exact ⟨by simp, h2, h3, by simp, by simp, fun k hk => by simp only [setS]; simpa using h6 k hk, fun j hj => by simp only [setS]; simpa using h7 j hj, by simp, by simp⟩
    · cases e
  · split at e
    · cases e; exact ⟨by simp, h2, h3, by simp, by simp, fun k hk => by simp only [setS]; simpa using h6 k hk, fun j hj => by simp only [setS]; simpa using h7 j hj, by simp, by simp⟩
    · cases e
  · unfold rd3 at e
    split at e
    · split at e
      · rename_i q; cases e; exact ⟨by simp, h2, h3, fun _ => q, by simp, h6, h7, by simp, by simp⟩
      · cases e
    · split at e
      · rename_i q; cases e; exact ⟨by simp, h2, h3, by simp, fun _ => q.2, h6, h7, by simp, by simp⟩
      · cases e
  · split at e
    · rename_i q
      cases e
      simp only [Bool.and_eq_true] at q
      obtain ⟨p, hp, ep⟩ := fgB_d (by decide) q.1
      exact ⟨by simp, h2, h3, fun _ => h4 (by omega), by simp, fun k hk => by simp only [setS]; simpa using h6 k hk, fun j hj => by simp only [setS]; simpa using h7 j hj, fun _ => ⟨p, hp, by simp only [setS]; simpa using ep⟩, by simp⟩
    · cases e
  · split at e
    · rename_i q
      cases e
      obtain ⟨p, hp, ep⟩ := fgB_d (by decide) q
      exact ⟨by simp, h2, h3, fun _ => h4 (by omega), by simp, fun k hk => by simp only [setS]; simpa using h6 k hk, fun j hj => by simp only [setS]; simpa using h7 j hj, fun _ => by simp only [setS]; simpa using h8 (by omega), fun _ => ⟨p, hp, by simp only [setS]; simpa using ep⟩⟩
    · cases e
  · split at e
    · cases e
      have hn := h4 (by omega)
      refine ⟨by simp, by simp only; omega, h3, by simp, by simp, fun k hk => ?_, fun j hj => by simp only [setS]; simpa using h7 j hj, by simp, by simp⟩
      simp only at hk
      by_cases ek : k = n
      · subst ek
        simp only [setS]
        simpa using ⟨h8 (by omega), h9 rfl⟩
      · simp only [setS]
        simpa [ek] using h6 k (by omega)
    · cases e
  · split at e
    · rename_i q
      cases e
      obtain ⟨p, hp, ep⟩ := fgB_d (by decide) q
      exact ⟨by simp, h2, h3, by simp, fun _ => h5 (by omega), fun k hk => by simp only [setS]; simpa using h6 k hk, fun j hj => by simp only [setS]; simpa using h7 j hj, fun _ => ⟨p, hp, by simp only [setS]; simpa using ep⟩, by simp⟩
    · cases e
  · split at e
    · cases e
      have hn := h5 (by omega)
      refine ⟨by simp, h2, by simp only; omega, by simp, by simp, fun k hk => by simp only [setS]; simpa using h6 k hk, fun j hj => ?_, by simp, by simp⟩
      simp only at hj
      by_cases ek : j = m
      · subst ek
        simp only [setS]
        simpa using h8 (by omega)
      · simp only [setS]
        simpa [ek] using h7 j (by omega)
    · cases e
  · cases e
def RC (g : Hp) (d n m : Nat) (T : St) : Prop := gI g 18 0 = nI d ∧ gI g 10 6 = nI n ∧ gI g 10 7 = nI m ∧ gI g 10 10 = 0 ∧ (∀ k, k < n → gI g 11 k = T 0 k ∧ gI g 12 k = T 1 k ∧ gI g 13 k = T 2 k ∧ gI g 14 k = 0) ∧ (∀ j, j < m → gI g 15 j = T 3 j ∧ gI g 16 j = T 4 j) ∧ (2 ≤ d → gI g 10 8 = T 5 2) ∧ (3 ≤ d → gI g 10 9 = T 5 3) ∧ (d = 5 ∨ d = 6 ∨ d = 8 → gI g 18 1 = T 5 4) ∧ (d = 6 → gI g 18 2 = T 5 5)
theorem rc_wf {g : Hp} {d n m : Nat} {T : St} (r : RC g d n m T) (w : WR (d, n, m, T)) : WFS (laneS g 10) ∧ nW (laneS g 10) = n ∧ ∀ k, k < n → laneS g 10 0 k = T 0 k := by
  obtain ⟨r1, r2, r3, r4, r5, r6, r7⟩ := r
  obtain ⟨w1, w2, w3, w4, w5, w6, w7, w8⟩ := w
  simp only at w1 w2 w3 w6 w7
  have hW : nW (laneS g 10) = n := by show (gI g 10 6).toNatClampNeg = n; rw [r2]; exact cl_nI (by omega)
  have hM : nM (laneS g 10) = m := by show (gI g 10 7).toNatClampNeg = m; rw [r3]; exact cl_nI (by omega)
  refine ⟨⟨⟨by omega, by rw [hW]; exact r2⟩, ⟨by omega, by rw [hM]; exact r3⟩, fun k hk => ?_, fun j hj => ?_⟩, hW, fun k hk => ?_⟩
  · rw [← la0 hk, ← la1 hk]
    rw [hW] at hk
    rw [(r5 k hk).1, (r5 k hk).2.1]
    exact w6 k hk
  · rw [← la3 hj]
    rw [hM] at hj
    rw [(r6 j hj).1]
    exact w7 j hj
  · rw [← la0 (by rw [hW]; exact hk)]
    exact (r5 k hk).1

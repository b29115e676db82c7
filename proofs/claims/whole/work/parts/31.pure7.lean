def rg (w a b : Int32) : Int32 := if w < a ∨ b < w then 0 else 1
theorem rg_no {w a b : Int32} (h : w < a ∨ b < w) : rg w a b = 0 := if_pos h
theorem rg_yes {w a b : Int32} (h : ¬ (w < a ∨ b < w)) : rg w a b = 1 := if_neg h
theorem R_ac.ag2 {h h' : Hp} {n m : Nat} (a : ∀ c j, (c = 0 ∧ j = 6) ∨ (c = 42 ∧ j = 17) ∨ (20 ≤ c ∧ c ≤ 33) ∨ c = 50 → gI h' c j = gI h c j) (e : ∀ i, gR h' 19 i = gR h 19 i) (hp : ∀ k, k < n → plF h' k = plF h k) (hR : Rows h) (hn : n ≤ 5) (hm : m ≤ 6) (r : R_ac h n m) : R_ac h' n m := by
  obtain ⟨na, ⟨r1, r2, r3⟩, r4⟩ := r
  refine ⟨na, ⟨r1, ?_, ?_⟩, fun i hi q hq => ?_⟩
  · rw [a 0 6 (by simp)]; exact r2
  · rw [a 42 17 (by simp)]; exact r3
  · rw [e] at hq
    obtain ⟨q', hq', b1, b2⟩ := hR.1 i (by omega)
    have e3 : q = q' := Option.some.inj (hq.symm.trans hq')
    subst e3
    exact (r4 i hi q hq).to (fun j _ => a q j (by omega)) (fun j _ => a 50 _ (by simp)) hp hn hm
theorem R_sl.ag2 {h h' : Hp} {n m : Nat} (a : ∀ c j, c = 35 ∨ c = 36 ∨ c = 37 ∨ c = 51 ∨ c = 52 → gI h' c j = gI h c j) (hp : ∀ k, k < n → plF h' k = plF h k) (hn : n ≤ 5) (hm : m ≤ 6) (r : R_sl h n m) : R_sl h' n m := by
  intro s hs
  obtain ⟨r1, r2⟩ := r s hs
  rw [a 37 s (by simp), a 52 s (by simp)]
  exact ⟨r1, fun q => (r2 q).to (fun j _ => a _ j (by omega)) (fun j _ => a 51 _ (by simp)) hp hn hm⟩
theorem R_st.upd {h h' : Hp} {n m : Nat} (r : R_st h n m) (a : ∀ c j, (c = 2 ∧ (j = 6 ∨ j = 7)) ∨ c = 3 ∨ c = 5 ∨ c = 8 ∨ (c = 42 ∧ (j = 4 ∨ j = 6)) ∨ c = 44 ∨ c = 45 → gI h' c j = gI h c j) (hp : ∀ k, k < n → gI h' 48 (19 + k) = gI h 48 (19 + k)) (sn : SN n m (plF h) (nowR h') (gI h' 48)) : R_st h' n m := by
  obtain ⟨⟨r1, r2, r3⟩, ⟨r4, r5, r6⟩, r7, r8, r9⟩ := r
  refine ⟨⟨r1, ?_, ?_⟩, ⟨r4, ?_, ?_⟩, fun k hk => ?_, fun j hj => ?_, ?_⟩
  · rw [a 2 6 (by simp)]; exact r2
  · rw [a 42 4 (by simp)]; exact r3
  · rw [a 2 7 (by simp)]; exact r5
  · rw [a 42 6 (by simp)]; exact r6
  · rw [a 3 k (by simp), hp k hk, a 5 k (by simp), a 44 k (by simp)]; exact r7 k hk
  · rw [a 8 j (by simp), a 45 j (by simp)]; exact r8 j hj
  · exact sn.to (fun _ _ => rfl) (fun _ _ => rfl) (fun k hk => hp k hk) r1 r4
theorem SN.set {n m : Nat} {pl R G : Nat → Int32} (i : Nat) (v : Int32) (h : SN n m pl R G) (hi : i = 16 ∨ i = 17 ∨ (i < n ∧ ∃ b, b ≤ 9 ∧ v = nI b)) (hn : n ≤ 5) (hm : m ≤ 6) : SN n m pl (fun j => if j = i then v else R j) (fun j => if j = i then v else G j) := by
  obtain ⟨h1, h2, h3, h4, h5, h6⟩ := h
  refine ⟨fun k hk => ?_, fun k hk h5 => ?_, fun j hj => ?_, ?_, ?_, ?_⟩
  · obtain ⟨q1, q2, q3, q4⟩ := h1 k hk
    simp only [if_neg (show ¬ 11 + k = i by omega), if_neg (show ¬ 5 + k = i by omega), if_neg (show ¬ 19 + k = i by omega)]
    refine ⟨?_, ?_, q3, q4⟩
    · by_cases e : k = i
      · rw [if_pos e, if_pos e]
      · rw [if_neg e, if_neg e]; exact q1
    · by_cases e : k = i
      · rw [if_pos e]; exact hi.elim (fun z => by omega) (fun z => z.elim (fun z => by omega) (fun z => z.2))
      · rw [if_neg e]; exact q2
  · simp only [if_neg (show ¬ 5 + k = i by omega)]; exact h2 k hk h5
  · simp only [if_neg (show ¬ 5 + j = i by omega), if_neg (show ¬ 10 + j = i by omega)]; exact h3 j hj
  · show (if 16 = i then v else R 16) = (if 16 = i then v else G 16)
    by_cases e : 16 = i
    · rw [if_pos e, if_pos e]
    · rw [if_neg e, if_neg e]; exact h4
  · show (if 17 = i then v else R 17) = (if 17 = i then v else G 17)
    by_cases e : 17 = i
    · rw [if_pos e, if_pos e]
    · rw [if_neg e, if_neg e]; exact h5
  · simp only [if_neg (show ¬ 18 = i by omega)]; exact h6
theorem now_at (h : Hp) : nowR h 16 = gI h 2 8 ∧ nowR h 17 = gI h 2 9 ∧ nowR h 18 = gI h 2 10 := ⟨rfl, rfl, rfl⟩
theorem now_b (h : Hp) {k : Nat} (hk : k < 5) : nowR h k = gI h 4 k := if_pos hk
theorem now_s (h : Hp) {j : Nat} (hj : j < 6) : nowR h (5 + j) = gI h 7 j := by unfold nowR; rw [if_neg (by omega), if_pos (by omega), show 5 + j - 5 = j by omega]
theorem now_p (h : Hp) {k : Nat} (hk : k < 5) : nowR h (11 + k) = gI h 6 k := by unfold nowR; rw [if_neg (by omega), if_neg (by omega), if_pos (by omega), show 11 + k - 11 = k by omega]
theorem now_ext {h h' : Hp} (h4 : ∀ k, gI h' 4 k = gI h 4 k) (h7 : ∀ k, gI h' 7 k = gI h 7 k) (h6 : ∀ k, gI h' 6 k = gI h 6 k) (h2 : ∀ k, 8 ≤ k → gI h' 2 k = gI h 2 k) {j : Nat} : nowR h' j = nowR h j := by
  unfold nowR
  rw [h4, h7, h6]
  by_cases q : j < 16
  · by_cases q1 : j < 5
    · rw [if_pos q1, if_pos q1]
    · rw [if_neg q1, if_neg q1, if_pos q, if_pos q]
  · rw [h2 _ (by omega)]
/-- both have kept and the wind or the honey is another, or a window burns otherwise -/
theorem act_one {h hA hB : Hp} {n m na : Nat} (r0 : R_st h n m) (r1 : Rows h) (r2 : na ≤ 14 ∧ ∀ i, i < na → ∀ r, gR h 19 i = some r → SN n m (plF h) (gI h r) (fun j => gI h 50 (24 * i + j))) (r3 : R_sl h n m) (r4 : R_ct h) (r5 : R_tx h) (r6 : gL h 0 14 = gL h 42 24)
    {i c1 k1 : Nat} {v : Int32} (hc : (i = 16 ∧ c1 = 2 ∧ k1 = 8) ∨ (i = 17 ∧ c1 = 2 ∧ k1 = 9) ∨ (i < n ∧ c1 = 4 ∧ k1 = i ∧ ∃ b, b ≤ 9 ∧ v = nI b)) (a : RMc h hA na (grow na).1 (grow na).2) (b : RMm (sI (sI hA c1 k1 v) 42 0 0) hB na (grow na).1 (grow na).2) : Rel (sI hB 48 i v) := by
  have hn := r0.1.1
  have hm := r0.2.1.1
  refine act_rel (hA := hA) (h1 := sI hA c1 k1 v) (hT := sI (sI hA c1 k1 v) 42 0 0) (hB := hB) r0 r1 r2 r3 r4 r5 r6 a (fun c j q => gI_sN (by omega)) rfl (fun c j q => by rw [gI_sI, if_neg (fun z => q ⟨z.1, z.2⟩)]) rfl b (fun c j q _ => by rw [gI_sI, if_neg (fun z => q ⟨z.1, by omega⟩)]) rfl ?_
  have fr : ∀ c j, ¬ ((c = 0 ∧ j = 6) ∨ (20 ≤ c ∧ c ≤ 33)) → ¬ (c = c1 ∧ j = k1) → ¬ (c = 42 ∧ j = 0) → ¬ ((c = 42 ∧ j = 17) ∨ c = 50) → ¬ (c = 48 ∧ j = i) → gI (sI hB 48 i v) c j = gI h c j := fun c j q1 q2 q3 q4 q5 => by
    rw [gI_sI, if_neg q5, b.2.2.2.2 c j q4, gI_sI, if_neg q3, gI_sI, if_neg q2, a.2.2.2.2.2.2 c j q1]
  refine r0.upd (fun c j q => fr c j (by omega) (by omega) (by omega) (by omega) (by omega)) (fun k hk => fr _ _ (by omega) (by omega) (by omega) (by omega) (by omega)) ?_
  refine (r0.2.2.2.2.set i v (hc.elim (fun z => Or.inl z.1) (fun z => Or.inr (z.elim (fun z => Or.inl z.1) (fun z => Or.inr ⟨z.1, z.2.2.2⟩)))) hn hm).to (fun j hj => ?_) (fun j hj => ?_) (fun _ _ => rfl) hn hm
  · have e8 : gI (sI hB 48 i v) c1 k1 = v := by rw [gI_sN (by omega), b.2.2.2.2 c1 k1 (by omega), gI_sI, if_neg (by omega), gI_sS]
    by_cases e : j = i
    · rw [if_pos e]
      subst e
      rcases hc with ⟨z1, z2, z3⟩ | ⟨z1, z2, z3⟩ | ⟨z1, z2, z3, z4⟩
      · subst z1; subst z2; subst z3; exact e8
      · subst z1; subst z2; subst z3; exact e8
      · subst z2; subst z3; rw [now_b _ (by omega)]; exact e8
    · rw [if_neg e]
      unfold nowR
      by_cases q1 : j < 5
      · rw [if_pos q1, if_pos q1]; exact fr 4 j (by omega) (by omega) (by omega) (by omega) (by omega)
      · rw [if_neg q1, if_neg q1]
        by_cases q2 : j < 11
        · rw [if_pos q2, if_pos q2]; exact fr 7 _ (by omega) (by omega) (by omega) (by omega) (by omega)
        · rw [if_neg q2, if_neg q2]
          by_cases q3 : j < 16
          · rw [if_pos q3, if_pos q3]; exact fr 6 _ (by omega) (by omega) (by omega) (by omega) (by omega)
          · rw [if_neg q3, if_neg q3]; exact fr 2 _ (by omega) (by omega) (by omega) (by omega) (by omega)
  · by_cases e : j = i
    · rw [if_pos e, e, gI_sS]
    · rw [if_neg e]; exact fr 48 j (by omega) (by omega) (by omega) (by omega) (by omega)

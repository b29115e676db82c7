theorem rmc_lane {h hA : Hp} {na s na' : Nat} (a : RMc h hA na s na') : laneS hA 2 = laneS h 2 := lane_ext (fun j _ _ => a.2.2.2.2.2.2 2 j (by omega)) (fun c j q1 q2 _ => a.2.2.2.2.2.2 c j (by omega))
theorem rmm_page {h hB : Hp} {na s na' : Nat} (b : RMm h hB na s na') : pageS hB 48 = pageS h 48 := page_ext (b.2.2.2.2 42 4 (by omega)) (b.2.2.2.2 42 6 (by omega)) (fun j => b.2.2.2.2 48 j (by omega)) (fun j => b.2.2.2.2 44 j (by omega)) (fun j => b.2.2.2.2 45 j (by omega))
theorem page_thr {h : Hp} : pageS (sI h 42 0 0) 48 = pageS h 48 := fm_page fm_thr
theorem page_cls {h h' : Hp} (a : ∀ c j, 42 ≤ c → gI h' c j = gI h c j) : pageS h' 48 = pageS h 48 := page_ext (a 42 4 (by omega)) (a 42 6 (by omega)) (fun j => a 48 j (by omega)) (fun j => a 44 j (by omega)) (fun j => a 45 j (by omega))
theorem can_val {S : St} {k : Nat} {y : Int32} (hk : k < nW S) (hw : nW S ≤ 5) (h : canF S (nI k) y = 1) : ∃ b, b ≤ 9 ∧ S 1 k + y = nI b := by
  unfold canF at h
  rw [if_neg (fun z => z.elim (nI_pos (by omega)) (nI_ge hk (by omega))), cl_nI (by omega)] at h
  by_cases h1 : S 1 k + y < 0
  · rw [if_pos h1] at h; exact absurd h (by decide)
  · rw [if_neg h1] at h
    by_cases h2 : 9 < S 1 k + y
    · rw [if_pos h2] at h; exact absurd h (by decide)
    · rw [i_lt, i_0] at h1
      rw [i_lt, show (9 : Int32).toInt = 9 from rfl] at h2
      exact nI_back (by omega) (n := 9) (by omega) (by decide)
theorem can_two (S : St) (w y : Int32) : canF S w y = 0 ∨ canF S w y = 1 := by
  unfold canF
  by_cases h1 : w < 0 ∨ nI (nW S) ≤ w
  · rw [if_pos h1]; exact Or.inl rfl
  · rw [if_neg h1]
    by_cases h2 : S 1 w.toNatClampNeg + y < 0
    · rw [if_pos h2]; exact Or.inl rfl
    · rw [if_neg h2]
      by_cases h3 : 9 < S 1 w.toNatClampNeg + y
      · rw [if_pos h3]; exact Or.inl rfl
      · rw [if_neg h3]; exact Or.inr rfl
theorem can_in {S : St} {k : Nat} {y : Int32} (hk : k < nW S) (hw : nW S ≤ 5) : (canF S (nI k) y = 0 ↔ (S 1 k + y < 0 ∨ 9 < S 1 k + y)) := by
  unfold canF
  rw [if_neg (fun z => z.elim (nI_pos (by omega)) (nI_ge hk (by omega))), cl_nI (by omega)]
  by_cases h1 : S 1 k + y < 0
  · rw [if_pos h1]; exact ⟨fun _ => Or.inl h1, fun _ => rfl⟩
  · rw [if_neg h1]
    by_cases h2 : 9 < S 1 k + y
    · rw [if_pos h2]; exact ⟨fun _ => Or.inr h2, fun _ => rfl⟩
    · rw [if_neg h2]; exact ⟨fun q => absurd q (by decide), fun q => q.elim (fun z => absurd z h1) (fun z => absurd z h2)⟩
theorem nt_out {h : Hp} {c j : Nat} (hc : ¬ (c = 2 ∧ j = 10)) (h6 : c ≠ 6) (h7 : c ≠ 7) (h9 : c ≠ 9) : gI (ntH h 2) c j = gI h c j := by
  unfold ntH
  rw [gI_sI, if_neg hc, gI_fillN (show c ≠ 2 + 5 by omega), gI_fillN (show c ≠ 2 + 4 by omega), gI_fillN (show c ≠ 2 + 7 by omega)]
theorem nt_6 {h : Hp} {k : Nat} (hk : k < nW (laneS h 2)) : gI (ntH h 2) 6 k = gI h 6 k + owedF (laneS h 2) k := by
  unfold ntH
  rw [gI_sN (by decide), gI_fillN (show (6 : Nat) ≠ 2 + 5 by omega)]
  exact gI_fillY hk
theorem nt_7 {h : Hp} {j : Nat} (hj : j < nM (laneS h 2)) : gI (ntH h 2) 7 j = laneS h 2 3 j + stepF (laneS h 2) j := by
  unfold ntH
  rw [gI_sN (by decide)]
  exact gI_fillY hj
theorem np_out {h : Hp} {c j : Nat} (hc : c ≠ 48) (h6 : c ≠ 56) (h7 : c ≠ 57) : gI (ntP h 48) c j = gI h c j := by
  unfold ntP
  rw [gI_sN hc, fo_N hc, fo_N hc, lay_N h6 h7]
theorem np_48 {h : Hp} {j : Nat} (hw : nW (pageS h 48) ≤ 5) (hm : nM (pageS h 48) ≤ 6) (hj : j < 5 ∨ j = 16 ∨ j = 17 ∨ 19 ≤ j) : gI (ntP h 48) 48 j = gI h 48 j := by
  unfold ntP
  rw [gI_sI, if_neg (by omega), fo_O (by omega), fo_O (by omega), lay_N (by decide) (by decide)]
theorem np_18 {h : Hp} : gI (ntP h 48) 48 18 = gI h 48 18 + 1 := by unfold ntP; rw [gI_sS]
theorem np_p {h : Hp} {k : Nat} (hw : nW (pageS h 48) ≤ 5) (hk : k < nW (pageS h 48)) : gI (ntP h 48) 48 (5 + k) = gI h 48 (5 + k) + owedF (pageS h 48) k := by
  unfold ntP
  rw [gI_sI, if_neg (by omega), fo_O (Or.inl (by omega)), fo_Y hk]
theorem np_pz {h : Hp} {k : Nat} (hm : nM (pageS h 48) ≤ 6) (hk : nW (pageS h 48) ≤ k) (h5 : k < 5) : gI (ntP h 48) 48 (5 + k) = gI h 48 (5 + k) := by
  unfold ntP
  rw [gI_sI, if_neg (by omega), fo_O (Or.inl (by omega)), fo_O (by omega), lay_N (by decide) (by decide)]
theorem np_s {h : Hp} {j : Nat} (hm : nM (pageS h 48) ≤ 6) (hj : j < nM (pageS h 48)) : gI (ntP h 48) 48 (10 + j) = pageS h 48 3 j + stepF (pageS h 48) j := by
  unfold ntP
  rw [gI_sI, if_neg (by omega), fo_Y hj]
/-- a night on both sides -/
theorem act_night {h hA hB : Hp} {n m na : Nat} (hr : Rel h) (r0 : R_st h n m) (r1 : Rows h) (r2 : na ≤ 14 ∧ ∀ i, i < na → ∀ r, gR h 19 i = some r → SN n m (plF h) (gI h r) (fun j => gI h 50 (24 * i + j))) (r3 : R_sl h n m) (r4 : R_ct h) (r5 : R_tx h) (r6 : gL h 0 14 = gL h 42 24)
    (a : RMc h hA na (grow na).1 (grow na).2) (b : RMm (sI (ntH hA 2) 42 0 0) hB na (grow na).1 (grow na).2) : Rel (ntP hB 48) ∧ pageS hB 48 = laneS h 2 := by
  obtain ⟨hSt, hF⟩ := hr.street
  have hn := r0.1.1
  have hm := r0.2.1.1
  have eA := rmc_lane a
  have eB : pageS hB 48 = laneS h 2 := by
    rw [rmm_page b, page_thr, page_cls (fun c j q => nt_out (h := hA) (by omega) (by omega) (by omega) (by omega)), page_cls (fun c j q => a.2.2.2.2.2.2 c j (by omega)), hSt]
  have hWn : nW (laneS h 2) = n := by show (gI h 2 6).toNatClampNeg = n; rw [r0.1.2.1]; exact cl_nI (by omega)
  have hMm : nM (laneS h 2) = m := by show (gI h 2 7).toNatClampNeg = m; rw [r0.2.1.2.1]; exact cl_nI (by omega)
  refine ⟨?_, eB⟩
  refine act_rel (hA := hA) (h1 := ntH hA 2) (hT := sI (ntH hA 2) 42 0 0) (hB := hB) r0 r1 r2 r3 r4 r5 r6 a (fun c j q => nt_out (by omega) (by omega) (by omega) (by omega)) rfl (fun c j q => by rw [gI_sI, if_neg (fun z => q ⟨z.1, z.2⟩)]) rfl b (fun c j q q2 => ?_) rfl ?_
  · by_cases e : c = 48
    · subst e; exact np_48 (by rw [eB]; exact hF.1.1) (by rw [eB]; exact hF.2.1.1) (by omega)
    · exact np_out e (fun z => q2 (by unfold scM; omega)) (fun z => q2 (by unfold scM; omega))
  have f0 : ∀ c j, c ≠ 48 → c ≠ 56 → c ≠ 57 → ¬ ((c = 42 ∧ j = 17) ∨ c = 50) → ¬ (c = 42 ∧ j = 0) → gI (ntP hB 48) c j = gI (ntH hA 2) c j := fun c j q1 q2 q3 q4 q5 => by
    rw [np_out q1 q2 q3, b.2.2.2.2 c j q4, gI_sI, if_neg q5]
  have fr : ∀ c j, c ≠ 48 → c ≠ 56 → c ≠ 57 → ¬ ((c = 42 ∧ j = 17) ∨ c = 50) → ¬ (c = 42 ∧ j = 0) → ¬ (c = 2 ∧ j = 10) → c ≠ 6 → c ≠ 7 → c ≠ 9 → ¬ ((c = 0 ∧ j = 6) ∨ (20 ≤ c ∧ c ≤ 33)) → gI (ntP hB 48) c j = gI h c j := fun c j q1 q2 q3 q4 q5 q6 q7 q8 q9 q10 => by
    rw [f0 c j q1 q2 q3 q4 q5, nt_out q6 q7 q8 q9, a.2.2.2.2.2.2 c j q10]
  have g48 : ∀ j, gI hB 48 j = gI h 48 j := fun j => by
    rw [b.2.2.2.2 48 j (by omega), gI_sN (by decide), nt_out (by omega) (by decide) (by decide) (by decide), a.2.2.2.2.2.2 48 j (by omega)]
  have p48 : ∀ j, (j < 5 ∨ j = 16 ∨ j = 17 ∨ 19 ≤ j) → gI (ntP hB 48) 48 j = gI h 48 j := fun j q => by rw [np_48 (by rw [eB]; exact hF.1.1) (by rw [eB]; exact hF.2.1.1) q, g48]
  obtain ⟨s1, s2, s3, s4, s5, s6⟩ := r0.2.2.2.2
  refine r0.upd (fun c j q => fr c j (by omega) (by omega) (by omega) (by omega) (by omega) (by omega) (by omega) (by omega) (by omega) (by omega)) (fun k hk => p48 _ (by omega)) ⟨fun k hk => ?_, fun k hk h5 => ?_, fun j hj => ?_, ?_, ?_, ?_⟩
  · obtain ⟨q1, q2, q3, q4⟩ := s1 k hk
    rw [now_b _ (by omega), now_p _ (by omega), p48 k (by omega), p48 (19 + k) (by omega), np_p (by rw [eB]; exact hF.1.1) (by rw [eB, hWn]; exact hk), g48, eB]
    rw [fr 4 k (by omega) (by omega) (by omega) (by omega) (by omega) (by omega) (by omega) (by omega) (by omega) (by omega), f0 6 k (by omega) (by omega) (by omega) (by omega) (by omega), nt_6 (by rw [eA, hWn]; exact hk), eA, a.2.2.2.2.2.2 6 k (by omega)]
    rw [now_b _ (by omega)] at q1
    rw [now_p _ (by omega)] at q3
    exact ⟨q1, q2, by rw [q3], q4⟩
  · rw [np_pz (by rw [eB]; exact hF.2.1.1) (by rw [eB, hWn]; exact hk) h5, g48]; exact s2 k hk h5
  · rw [now_s _ (by omega), np_s (by rw [eB]; exact hF.2.1.1) (by rw [eB, hMm]; exact hj), f0 7 j (by omega) (by omega) (by omega) (by omega) (by omega), nt_7 (by rw [eA, hMm]; exact hj), eA, eB]
    exact ⟨rfl, seat_in hF (by rw [hMm]; exact hj)⟩
  · rw [(now_at _).1, p48 16 (by omega), fr 2 8 (by omega) (by omega) (by omega) (by omega) (by omega) (by omega) (by omega) (by omega) (by omega) (by omega)]; exact s4
  · rw [(now_at _).2.1, p48 17 (by omega), fr 2 9 (by omega) (by omega) (by omega) (by omega) (by omega) (by omega) (by omega) (by omega) (by omega) (by omega)]; exact s5
  · rw [(now_at _).2.2, np_18, g48, f0 2 10 (by omega) (by omega) (by omega) (by omega) (by omega)]
    show gI (ntH hA 2) 2 10 = _
    unfold ntH
    rw [gI_sS, a.2.2.2.2.2.2 2 10 (by omega)]
    have s6' : gI h 2 10 = gI h 48 18 := s6
    rw [s6']

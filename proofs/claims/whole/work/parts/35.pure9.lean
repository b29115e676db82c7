theorem ld_now {h : Hp} {r j : Nat} (hr : 9 < r) (hj : j < 19) : nowR (ldN h 2 r 5 6 3) j = gI h r j := by
  unfold nowR
  by_cases q1 : j < 5
  · rw [if_pos q1, gI_ld]; grind
  · rw [if_neg q1]
    by_cases q2 : j < 11
    · rw [if_pos q2, gI_ld]; grind
    · rw [if_neg q2]
      by_cases q3 : j < 16
      · rw [if_pos q3, gI_ld]; grind
      · rw [if_neg q3, gI_ld]; grind
theorem ld_out {h : Hp} {r c j : Nat} (hc : ¬ (c = 2 ∧ 8 ≤ j) ∧ c ≠ 4 ∧ c ≠ 6 ∧ c ≠ 7) : gI (ldN h 2 r 5 6 3) c j = gI h c j := by
  rw [gI_ld]; grind
/-- both go back to what was kept -/
theorem back_rel {h h2 : Hp} {n m : Nat} {R G : Nat → Int32} (r0 : R_st h n m) (sn : SN n m (plF h) R G) (hR : ∀ j, j < 19 → nowR h2 j = R j) (hG : ∀ j, j < 24 → gI h2 48 j = G j) (a : ∀ c j, (c = 2 ∧ (j = 6 ∨ j = 7)) ∨ c = 3 ∨ c = 5 ∨ c = 8 ∨ (c = 42 ∧ (j = 4 ∨ j = 6)) ∨ c = 44 ∨ c = 45 → gI h2 c j = gI h c j) : R_st h2 n m ∧ ∀ k, k < n → plF h2 k = plF h k := by
  have hn := r0.1.1
  have hm := r0.2.1.1
  have hp : ∀ k, k < n → gI h2 48 (19 + k) = gI h 48 (19 + k) := fun k hk => by
    rw [hG _ (by omega)]; exact (sn.1 k hk).2.2.2
  exact ⟨r0.upd a hp (sn.to hR hG (fun _ _ => rfl) hn hm), hp⟩

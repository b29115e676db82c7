def maxI (x y : Int32) : Int32 := if x < y then y else x
def absI (x : Int32) : Int32 := if 0 ≤ x then x else -x
section MTH
variable {l : Launch} {D : va_G} {base : Nat} {M : MI} {pc idx : Nat} {ls : List (Option Value)} {st : List Value} {h : Hp} {Q : Hp → Option Value → Prop}
theorem wh_mabs {x : Int32} (hd : decode M.2.1 pc = .ok (.invokestatic idx, 3)) (hl : Cond.methodLink M.1.cls idx M_Jm_abs.1 ∈ lw_gt) (hf : 1 ≤ M.2.2.2.2.frames ∧ (st.map fun v => v.category).sum + 13 ≤ M.2.2.2.2.locals) (k : WH l D base M (pc + 3) ls (.int (absI x) :: st) h Q) : WH l D base M pc ls (.int x :: st) h Q := by
  intro p e s m args below meth c C H locs A hP hS hL
  refine va_mabs C.1 C.2.1 (by rw [C.2.2.2.1]; exact hL.1.symm) C.2.2.2.2.1 (C.2.2.2.2.2.1 _ hl) (C.2.2.2.2.2.1 _ ks_Jm_abs) (C.2.2.2.2.2.1 _ k_Jm_abs.2.1) (C.2.2.2.2.2.1 _ (show Cond.code Lib.Math.abs.name Lib.Math.abs.code 1 (some .int) ∈ lw_gt from gt_at 289 (by decide +kernel) rfl)) hf.1 (by rw [up_sum]; exact hf.2) (by rw [← Nat.add_zero (SH.length - ZZ.1), zz_c]; exact Nat.zero_le _) (by rw [← Nat.add_zero (szs SH - ZZ.2), zz_s]; exact Nat.zero_le _) hd ?_
  have e0 : (if 0 ≤ x then x else 0 - x) = absI x := by unfold absI; rw [Int32.zero_sub]
  rw [e0]
  exact k p e s m args below meth c C H locs A hP hS hL
theorem wh_mmax {x y : Int32} (hd : decode M.2.1 pc = .ok (.invokestatic idx, 3)) (hl : Cond.methodLink M.1.cls idx M_Jm_max.1 ∈ lw_gt) (hf : 1 ≤ M.2.2.2.2.frames ∧ (st.map fun v => v.category).sum + 13 ≤ M.2.2.2.2.locals) (k : WH l D base M (pc + 3) ls (.int (maxI x y) :: st) h Q) : WH l D base M pc ls (.int y :: .int x :: st) h Q := by
  intro p e s m args below meth c C H locs A hP hS hL
  exact va_mmax C.1 C.2.1 (by rw [C.2.2.2.1]; exact hL.1.symm) C.2.2.2.2.1 (C.2.2.2.2.2.1 _ hl) (C.2.2.2.2.2.1 _ ks_Jm_max) (C.2.2.2.2.2.1 _ k_Jm_max.2.1) (C.2.2.2.2.2.1 _ (show Cond.code Lib.Math.max.name Lib.Math.max.code 2 (some .int) ∈ lw_gt from gt_at 304 (by decide +kernel) rfl)) hf.1 (by rw [up_sum]; exact hf.2) (by rw [← Nat.add_zero (SH.length - ZZ.1), zz_c]; exact Nat.zero_le _) (by rw [← Nat.add_zero (szs SH - ZZ.2), zz_s]; exact Nat.zero_le _) hd (k p e s m args below meth c C H locs A hP hS hL)
end MTH

theorem wh_loopR {l : Launch} {D : va_G} {base : Nat} {M : MI} {pc : Nat} {Q : Hp → Option Value → Prop} (n : Nat) (L : Nat → List (Option Value)) (I : Nat → Hp → Prop) (hx : ∀ g, I n g → WH l D base M pc (L n) [] g Q) (hs : ∀ i g, i < n → I i g → (∀ g', I (i + 1) g' → WH l D base M pc (L (i + 1)) [] g' Q) → WH l D base M pc (L i) [] g Q) (i : Nat) (g : Hp) (hi : i ≤ n) (h0 : I i g) : WH l D base M pc (L i) [] g Q := by
  obtain ⟨r, hr⟩ : ∃ r, i + r = n := ⟨n - i, by omega⟩
  induction r generalizing i g with
  | zero =>
    have e : i = n := by omega
    subst e
    exact hx g h0
  | succ r ih => exact hs i g (by omega) h0 (fun g' h1 => ih (i + 1) g' (by omega) h1 (by omega))
/-- a street with one number changed -/
def setS (S : St) (r k : Nat) (x : Int32) : St := fun r' k' => if r' = r ∧ k' = k then x else S r' k'
theorem set_n {S : St} {r k : Nat} {x : Int32} (r' k' : Nat) (h : ¬ (r' = r ∧ k' = k)) : setS S r k x r' k' = S r' k' := if_neg h
theorem set_y (S : St) (r k : Nat) (x : Int32) : setS S r k x r k = x := if_pos ⟨rfl, rfl⟩
theorem nW_set {S : St} {r k : Nat} {x : Int32} (h : ¬ (r = 5 ∧ k = 0)) : nW (setS S r k x) = nW S := by unfold nW; rw [set_n 5 0 (fun z => h ⟨z.1.symm, z.2.symm⟩)]
theorem nM_set {S : St} {r k : Nat} {x : Int32} (h : ¬ (r = 5 ∧ k = 1)) : nM (setS S r k x) = nM S := by unfold nM; rw [set_n 5 1 (fun z => h ⟨z.1.symm, z.2.symm⟩)]
theorem wf_set1 {S : St} (hF : WFS S) {k b : Nat} (hb : b ≤ 9) : WFS (setS S 1 k (nI b)) := by
  refine ⟨by rw [nW_set (by omega), set_n 5 0 (by omega)]; exact hF.1, by rw [nM_set (by omega), set_n 5 1 (by omega)]; exact hF.2.1, fun q hq => ?_, fun j hj => ?_⟩
  · rw [nW_set (by omega)] at hq
    obtain ⟨p1, p2⟩ := hF.2.2.1 q hq
    refine ⟨by rw [set_n 0 q (by omega)]; exact p1, ?_⟩
    by_cases e : q = k
    · subst e; rw [set_y]; exact ⟨b, hb, rfl⟩
    · rw [set_n 1 q (by omega)]; exact p2
  · rw [nM_set (by omega)] at hj; rw [set_n 3 j (by omega)]; exact hF.2.2.2 j hj
theorem wf_set0 {S : St} (hF : WFS S) {k b : Nat} (hb : b ≤ 8) : WFS (setS S 0 k (nI b)) := by
  refine ⟨by rw [nW_set (by omega), set_n 5 0 (by omega)]; exact hF.1, by rw [nM_set (by omega), set_n 5 1 (by omega)]; exact hF.2.1, fun q hq => ?_, fun j hj => ?_⟩
  · rw [nW_set (by omega)] at hq
    obtain ⟨p1, p2⟩ := hF.2.2.1 q hq
    refine ⟨?_, by rw [set_n 1 q (by omega)]; exact p2⟩
    by_cases e : q = k
    · subst e; rw [set_y]; exact ⟨b, hb, rfl⟩
    · rw [set_n 0 q (by omega)]; exact p1
  · rw [nM_set (by omega)] at hj; rw [set_n 3 j (by omega)]; exact hF.2.2.2 j hj
theorem wf_set5 {S : St} (hF : WFS S) {k : Nat} {v : Int32} (hk : 2 ≤ k) : WFS (setS S 5 k v) := by
  refine ⟨by rw [nW_set (by omega), set_n 5 0 (by omega)]; exact hF.1, by rw [nM_set (by omega), set_n 5 1 (by omega)]; exact hF.2.1, fun q hq => ?_, fun j hj => ?_⟩
  · rw [nW_set (by omega)] at hq
    rw [set_n 0 q (by omega), set_n 1 q (by omega)]; exact hF.2.2.1 q hq
  · rw [nM_set (by omega)] at hj; rw [set_n 3 j (by omega)]; exact hF.2.2.2 j hj
/-- a lane by what it is made of -/
theorem lane_of {h h' : Hp} {b b' r k : Nat} {v : Int32} (e6 : gI h' b' 6 = gI h b 6) (e7 : gI h' b' 7 = gI h b 7) (e8 : gI h' b' 8 = if r = 5 ∧ k = 2 then v else gI h b 8) (e9 : gI h' b' 9 = if r = 5 ∧ k = 3 then v else gI h b 9)
    (f1 : ∀ q, q < nW (laneS h b) → gI h' (b' + 1) q = if r = 0 ∧ q = k then v else gI h (b + 1) q) (f2 : ∀ q, q < nW (laneS h b) → gI h' (b' + 2) q = if r = 1 ∧ q = k then v else gI h (b + 2) q) (f3 : ∀ q, q < nW (laneS h b) → gI h' (b' + 3) q = gI h (b + 3) q) (f5 : ∀ j, j < nM (laneS h b) → gI h' (b' + 5) j = gI h (b + 5) j) (f6 : ∀ j, j < nM (laneS h b) → gI h' (b' + 6) j = gI h (b + 6) j)
    (hr : (r = 0 ∧ k < nW (laneS h b)) ∨ (r = 1 ∧ k < nW (laneS h b)) ∨ (r = 5 ∧ (k = 2 ∨ k = 3)) ∨ r = 9) (hv : r = 9 → v = 0) : laneS h' b' = setS (laneS h b) r k v := by
  funext x q
  unfold setS
  have g1 : (if q < (gI h' b' 6).toNatClampNeg then gI h' (b' + 1) q else 0) = (if r = 0 ∧ q = k then v else if q < (gI h b 6).toNatClampNeg then gI h (b + 1) q else 0) := by
    rw [e6]
    by_cases z : q < (gI h b 6).toNatClampNeg
    · rw [if_pos z, if_pos z, f1 q z]
    · rw [if_neg z, if_neg z, if_neg (fun y => by rcases hr with w | w | w | w <;> first | (exact z (by rw [y.2]; exact w.2)) | omega)]
  have g2 : (if q < (gI h' b' 6).toNatClampNeg then gI h' (b' + 2) q else 0) = (if r = 1 ∧ q = k then v else if q < (gI h b 6).toNatClampNeg then gI h (b + 2) q else 0) := by
    rw [e6]
    by_cases z : q < (gI h b 6).toNatClampNeg
    · rw [if_pos z, if_pos z, f2 q z]
    · rw [if_neg z, if_neg z, if_neg (fun y => by rcases hr with w | w | w | w <;> first | (exact z (by rw [y.2]; exact w.2)) | omega)]
  have g3 : (if q < (gI h' b' 6).toNatClampNeg then gI h' (b' + 3) q else 0) = (if q < (gI h b 6).toNatClampNeg then gI h (b + 3) q else 0) := by
    rw [e6]
    by_cases z : q < (gI h b 6).toNatClampNeg
    · rw [if_pos z, if_pos z, f3 q z]
    · rw [if_neg z, if_neg z]
  have g5 : (if q < (gI h' b' 7).toNatClampNeg then gI h' (b' + 5) q else 0) = (if q < (gI h b 7).toNatClampNeg then gI h (b + 5) q else 0) := by
    rw [e7]
    by_cases z : q < (gI h b 7).toNatClampNeg
    · rw [if_pos z, if_pos z, f5 q z]
    · rw [if_neg z, if_neg z]
  have g6 : (if q < (gI h' b' 7).toNatClampNeg then gI h' (b' + 6) q else 0) = (if q < (gI h b 7).toNatClampNeg then gI h (b + 6) q else 0) := by
    rw [e7]
    by_cases z : q < (gI h b 7).toNatClampNeg
    · rw [if_pos z, if_pos z, f6 q z]
    · rw [if_neg z, if_neg z]
  rcases (show x = 0 ∨ x = 1 ∨ x = 2 ∨ x = 3 ∨ x = 4 ∨ x = 5 ∨ 6 ≤ x by omega) with e | e | e | e | e | e | e
  · subst e
    refine g1.trans ?_
    by_cases z : r = 0 ∧ q = k
    · rw [if_pos z, if_pos (show 0 = r ∧ q = k from ⟨z.1.symm, z.2⟩)]
    · rw [if_neg z, if_neg (show ¬ (0 = r ∧ q = k) from fun y => z ⟨y.1.symm, y.2⟩)]; rfl
  · subst e
    refine g2.trans ?_
    by_cases z : r = 1 ∧ q = k
    · rw [if_pos z, if_pos (show 1 = r ∧ q = k from ⟨z.1.symm, z.2⟩)]
    · rw [if_neg z, if_neg (show ¬ (1 = r ∧ q = k) from fun y => z ⟨y.1.symm, y.2⟩)]; rfl
  · subst e; refine g3.trans ?_; rw [if_neg (show ¬ (2 = r ∧ q = k) by omega)]; rfl
  · subst e; refine g5.trans ?_; rw [if_neg (show ¬ (3 = r ∧ q = k) by omega)]; rfl
  · subst e; refine g6.trans ?_; rw [if_neg (show ¬ (4 = r ∧ q = k) by omega)]; rfl
  · subst e
    match q with
    | 0 => show gI h' b' 6 = if 5 = r ∧ 0 = k then v else gI h b 6; rw [e6, if_neg (by omega)]
    | 1 => show gI h' b' 7 = if 5 = r ∧ 1 = k then v else gI h b 7; rw [e7, if_neg (by omega)]
    | 2 =>
      show gI h' b' 8 = if 5 = r ∧ 2 = k then v else gI h b 8
      rw [e8]
      by_cases z : r = 5 ∧ k = 2
      · rw [if_pos z, if_pos ⟨z.1.symm, z.2.symm⟩]
      · rw [if_neg z, if_neg (fun y => z ⟨y.1.symm, y.2.symm⟩)]
    | 3 =>
      show gI h' b' 9 = if 5 = r ∧ 3 = k then v else gI h b 9
      rw [e9]
      by_cases z : r = 5 ∧ k = 3
      · rw [if_pos z, if_pos ⟨z.1.symm, z.2.symm⟩]
      · rw [if_neg z, if_neg (fun y => z ⟨y.1.symm, y.2.symm⟩)]
    | q + 4 => show (0 : Int32) = if 5 = r ∧ q + 4 = k then v else 0; rw [if_neg (by omega)]
  · obtain ⟨y, rfl⟩ : ∃ y, x = y + 6 := ⟨x - 6, by omega⟩
    show (0 : Int32) = if y + 6 = r ∧ q = k then v else 0
    by_cases z : y + 6 = r ∧ q = k
    · rw [if_pos z]; exact (hv (by omega)).symm
    · rw [if_neg z]

/-- a page by what it is made of -/
theorem page_of {h h' : Hp} {p p' r k : Nat} {v : Int32} (e6 : gI h' 42 4 = gI h 42 4) (e7 : gI h' 42 6 = gI h 42 6) (e8 : gI h' p' 16 = if r = 5 ∧ k = 2 then v else gI h p 16) (e9 : gI h' p' 17 = if r = 5 ∧ k = 3 then v else gI h p 17)
    (f1 : ∀ q, q < nW (pageS h p) → gI h' p' (19 + q) = if r = 0 ∧ q = k then v else gI h p (19 + q)) (f2 : ∀ q, q < nW (pageS h p) → gI h' p' q = if r = 1 ∧ q = k then v else gI h p q) (f3 : ∀ q, q < nW (pageS h p) → gI h' 44 q = gI h 44 q) (f5 : ∀ j, j < nM (pageS h p) → gI h' p' (10 + j) = gI h p (10 + j)) (f6 : ∀ j, j < nM (pageS h p) → gI h' 45 j = gI h 45 j)
    (hr : (r = 0 ∧ k < nW (pageS h p)) ∨ (r = 1 ∧ k < nW (pageS h p)) ∨ (r = 5 ∧ (k = 2 ∨ k = 3)) ∨ r = 9) (hv : r = 9 → v = 0) : pageS h' p' = setS (pageS h p) r k v := by
  funext x q
  unfold setS
  have g1 : (if q < (gI h' 42 4).toNatClampNeg then gI h' p' (19 + q) else 0) = (if r = 0 ∧ q = k then v else if q < (gI h 42 4).toNatClampNeg then gI h p (19 + q) else 0) := by
    rw [e6]
    by_cases z : q < (gI h 42 4).toNatClampNeg
    · rw [if_pos z, if_pos z, f1 q z]
    · rw [if_neg z, if_neg z, if_neg (fun y => by rcases hr with w | w | w | w <;> first | (exact z (by rw [y.2]; exact w.2)) | omega)]
  have g2 : (if q < (gI h' 42 4).toNatClampNeg then gI h' p' q else 0) = (if r = 1 ∧ q = k then v else if q < (gI h 42 4).toNatClampNeg then gI h p q else 0) := by
    rw [e6]
    by_cases z : q < (gI h 42 4).toNatClampNeg
    · rw [if_pos z, if_pos z, f2 q z]
    · rw [if_neg z, if_neg z, if_neg (fun y => by rcases hr with w | w | w | w <;> first | (exact z (by rw [y.2]; exact w.2)) | omega)]
  have g3 : (if q < (gI h' 42 4).toNatClampNeg then gI h' 44 q else 0) = (if q < (gI h 42 4).toNatClampNeg then gI h 44 q else 0) := by
    rw [e6]
    by_cases z : q < (gI h 42 4).toNatClampNeg
    · rw [if_pos z, if_pos z, f3 q z]
    · rw [if_neg z, if_neg z]
  have g5 : (if q < (gI h' 42 6).toNatClampNeg then gI h' p' (10 + q) else 0) = (if q < (gI h 42 6).toNatClampNeg then gI h p (10 + q) else 0) := by
    rw [e7]
    by_cases z : q < (gI h 42 6).toNatClampNeg
    · rw [if_pos z, if_pos z, f5 q z]
    · rw [if_neg z, if_neg z]
  have g6 : (if q < (gI h' 42 6).toNatClampNeg then gI h' 45 q else 0) = (if q < (gI h 42 6).toNatClampNeg then gI h 45 q else 0) := by
    rw [e7]
    by_cases z : q < (gI h 42 6).toNatClampNeg
    · rw [if_pos z, if_pos z, f6 q z]
    · rw [if_neg z, if_neg z]
  rcases (show x = 0 ∨ x = 1 ∨ x = 2 ∨ x = 3 ∨ x = 4 ∨ x = 5 ∨ 6 ≤ x by omega) with e | e | e | e | e | e | e
  · subst e
    refine g1.trans ?_
    by_cases z : r = 0 ∧ q = k
    · rw [if_pos z, if_pos (show 0 = r ∧ q = k from ⟨z.1.symm, z.2⟩)]
    · rw [if_neg z, if_neg (show ¬ (0 = r ∧ q = k) from fun y => z ⟨y.1.symm, y.2⟩)]; rfl
  · subst e
    refine g2.trans ?_
    by_cases z : r = 1 ∧ q = k
    · rw [if_pos z, if_pos (show 1 = r ∧ q = k from ⟨z.1.symm, z.2⟩)]
    · rw [if_neg z, if_neg (show ¬ (1 = r ∧ q = k) from fun y => z ⟨y.1.symm, y.2⟩)]; rfl
  · subst e; refine g3.trans ?_; rw [if_neg (show ¬ (2 = r ∧ q = k) by omega)]; rfl
  · subst e; refine g5.trans ?_; rw [if_neg (show ¬ (3 = r ∧ q = k) by omega)]; rfl
  · subst e; refine g6.trans ?_; rw [if_neg (show ¬ (4 = r ∧ q = k) by omega)]; rfl
  · subst e
    match q with
    | 0 => show gI h' 42 4 = if 5 = r ∧ 0 = k then v else gI h 42 4; rw [e6, if_neg (by omega)]
    | 1 => show gI h' 42 6 = if 5 = r ∧ 1 = k then v else gI h 42 6; rw [e7, if_neg (by omega)]
    | 2 =>
      show gI h' p' 16 = if 5 = r ∧ 2 = k then v else gI h p 16
      rw [e8]
      by_cases z : r = 5 ∧ k = 2
      · rw [if_pos z, if_pos ⟨z.1.symm, z.2.symm⟩]
      · rw [if_neg z, if_neg (fun y => z ⟨y.1.symm, y.2.symm⟩)]
    | 3 =>
      show gI h' p' 17 = if 5 = r ∧ 3 = k then v else gI h p 17
      rw [e9]
      by_cases z : r = 5 ∧ k = 3
      · rw [if_pos z, if_pos ⟨z.1.symm, z.2.symm⟩]
      · rw [if_neg z, if_neg (fun y => z ⟨y.1.symm, y.2.symm⟩)]
    | q + 4 => show (0 : Int32) = if 5 = r ∧ q + 4 = k then v else 0; rw [if_neg (by omega)]
  · obtain ⟨y, rfl⟩ : ∃ y, x = y + 6 := ⟨x - 6, by omega⟩
    show (0 : Int32) = if y + 6 = r ∧ q = k then v else 0
    by_cases z : y + 6 = r ∧ q = k
    · rw [if_pos z]; exact (hv (by omega)).symm
    · rw [if_neg z]
theorem lane_cp {h : Hp} (hw : nW (laneS h 2) ≤ 5) (hm : nM (laneS h 2) ≤ 6) : laneS (cpN h 10 2 5 6) 10 = laneS h 2 := by
  have e : ∀ c j, (c = 10 ∧ 6 ≤ j ∧ j ≤ 10) → gI (cpN h 10 2 5 6) c j = gI h 2 j := fun c j z => by rw [gI_cp, if_pos z]
  have f : ∀ c j, 11 ≤ c → c ≤ 14 → j < 5 → gI (cpN h 10 2 5 6) c j = gI h (2 + (c - 10)) j := fun c j z1 z2 z3 => by rw [gI_cp, if_neg (by omega), if_pos (by omega)]
  have g : ∀ c j, 15 ≤ c → c ≤ 16 → j < 6 → gI (cpN h 10 2 5 6) c j = gI h (2 + (c - 10)) j := fun c j z1 z2 z3 => by rw [gI_cp, if_neg (by omega), if_neg (by omega), if_pos (by omega)]
  have := lane_of (h := h) (h' := cpN h 10 2 5 6) (b := 2) (b' := 10) (r := 9) (k := 0) (v := 0) (e 10 6 (by omega)) (e 10 7 (by omega)) (by rw [if_neg (by decide)]; exact e 10 8 (by omega)) (by rw [if_neg (by decide)]; exact e 10 9 (by omega)) (fun q hq => by rw [if_neg (by omega)]; exact f 11 q (by omega) (by omega) (by omega)) (fun q hq => by rw [if_neg (by omega)]; exact f 12 q (by omega) (by omega) (by omega)) (fun q hq => f 13 q (by omega) (by omega) (by omega)) (fun j hj => g 15 j (by omega) (by omega) (by omega)) (fun j hj => g 16 j (by omega) (by omega) (by omega)) (Or.inr (Or.inr (Or.inr rfl))) (fun _ => rfl)
  rw [this]
  funext x q
  unfold setS
  by_cases z : x = 9 ∧ q = 0
  · rw [if_pos z, z.1]; rfl
  · rw [if_neg z]
theorem lane_s1 {h : Hp} {b k : Nat} {v : Int32} (hk : k < nW (laneS h b)) : laneS (sI h (b + 2) k v) b = setS (laneS h b) 1 k v :=
  lane_of (gI_sN (by omega)) (gI_sN (by omega)) (by rw [if_neg (by omega)]; exact gI_sN (by omega)) (by rw [if_neg (by omega)]; exact gI_sN (by omega)) (fun q _ => by rw [if_neg (by omega)]; exact gI_sN (by omega)) (fun q _ => by rw [gI_sI]; by_cases z : q = k; rw [if_pos ⟨rfl, z⟩, if_pos ⟨rfl, z⟩]; rw [if_neg (fun y => z y.2), if_neg (fun y => z y.2)]) (fun q _ => gI_sN (by omega)) (fun q _ => gI_sN (by omega)) (fun q _ => gI_sN (by omega)) (Or.inr (Or.inl ⟨rfl, hk⟩)) (fun z => absurd z (by decide))
theorem lane_s0 {h : Hp} {b k : Nat} {v : Int32} (hk : k < nW (laneS h b)) : laneS (sI h (b + 1) k v) b = setS (laneS h b) 0 k v :=
  lane_of (gI_sN (by omega)) (gI_sN (by omega)) (by rw [if_neg (by omega)]; exact gI_sN (by omega)) (by rw [if_neg (by omega)]; exact gI_sN (by omega)) (fun q _ => by rw [gI_sI]; by_cases z : q = k; rw [if_pos ⟨rfl, z⟩, if_pos ⟨rfl, z⟩]; rw [if_neg (fun y => z y.2), if_neg (fun y => z y.2)]) (fun q _ => by rw [if_neg (by omega)]; exact gI_sN (by omega)) (fun q _ => gI_sN (by omega)) (fun q _ => gI_sN (by omega)) (fun q _ => gI_sN (by omega)) (Or.inl ⟨rfl, hk⟩) (fun z => absurd z (by decide))
theorem lane_s8 {h : Hp} {b : Nat} {v : Int32} : laneS (sI h b 8 v) b = setS (laneS h b) 5 2 v :=
  lane_of (gI_sM (by omega)) (gI_sM (by omega)) (by rw [if_pos ⟨rfl, rfl⟩]; exact gI_sS _ _ _ _) (by rw [if_neg (by omega)]; exact gI_sM (by omega)) (fun q _ => by rw [if_neg (by omega)]; exact gI_sN (by omega)) (fun q _ => by rw [if_neg (by omega)]; exact gI_sN (by omega)) (fun q _ => gI_sN (by omega)) (fun q _ => gI_sN (by omega)) (fun q _ => gI_sN (by omega)) (Or.inr (Or.inr (Or.inl ⟨rfl, Or.inl rfl⟩))) (fun z => absurd z (by decide))
theorem lane_s9 {h : Hp} {b : Nat} {v : Int32} : laneS (sI h b 9 v) b = setS (laneS h b) 5 3 v :=
  lane_of (gI_sM (by omega)) (gI_sM (by omega)) (by rw [if_neg (by omega)]; exact gI_sM (by omega)) (by rw [if_pos ⟨rfl, rfl⟩]; exact gI_sS _ _ _ _) (fun q _ => by rw [if_neg (by omega)]; exact gI_sN (by omega)) (fun q _ => by rw [if_neg (by omega)]; exact gI_sN (by omega)) (fun q _ => gI_sN (by omega)) (fun q _ => gI_sN (by omega)) (fun q _ => gI_sN (by omega)) (Or.inr (Or.inr (Or.inl ⟨rfl, Or.inr rfl⟩))) (fun z => absurd z (by decide))
/-- the reference's trial page begun -/
def bgH (h : Hp) : Hp := fillA h 49 (fun k => gI h 48 k) 24
theorem page_bg {h : Hp} (hw : nW (pageS h 48) ≤ 5) (hm : nM (pageS h 48) ≤ 6) : pageS (bgH h) 49 = pageS h 48 := by
  have e : ∀ c j, c ≠ 49 → gI (bgH h) c j = gI h c j := fun c j z => gI_fillN z
  have f : ∀ j, j < 24 → gI (bgH h) 49 j = gI h 48 j := fun j z => gI_fillY z
  have := page_of (h := h) (h' := bgH h) (p := 48) (p' := 49) (r := 9) (k := 0) (v := 0) (e 42 4 (by decide)) (e 42 6 (by decide)) (by rw [if_neg (by decide)]; exact f 16 (by decide)) (by rw [if_neg (by decide)]; exact f 17 (by decide)) (fun q hq => by rw [if_neg (by omega)]; exact f _ (by omega)) (fun q hq => by rw [if_neg (by omega)]; exact f _ (by omega)) (fun q hq => e 44 q (by decide)) (fun j hj => f _ (by omega)) (fun j hj => e 45 j (by decide)) (Or.inr (Or.inr (Or.inr rfl))) (fun _ => rfl)
  rw [this]
  funext x q
  unfold setS
  by_cases z : x = 9 ∧ q = 0
  · rw [if_pos z, z.1]; rfl
  · rw [if_neg z]
theorem page_s1 {h : Hp} {k : Nat} {v : Int32} (hk : k < nW (pageS h 49)) (hw : nW (pageS h 49) ≤ 5) : pageS (sI h 49 k v) 49 = setS (pageS h 49) 1 k v :=
  page_of (gI_sN (by omega)) (gI_sN (by omega)) (by rw [if_neg (by omega)]; exact gI_sM (by omega)) (by rw [if_neg (by omega)]; exact gI_sM (by omega)) (fun q _ => by rw [if_neg (by omega)]; exact gI_sM (by omega)) (fun q _ => by rw [gI_sI]; by_cases z : q = k; rw [if_pos ⟨rfl, z⟩, if_pos ⟨rfl, z⟩]; rw [if_neg (fun y => z y.2), if_neg (fun y => z y.2)]) (fun q _ => gI_sN (by omega)) (fun q _ => gI_sM (by omega)) (fun q _ => gI_sN (by omega)) (Or.inr (Or.inl ⟨rfl, hk⟩)) (fun z => absurd z (by decide))
theorem page_s0 {h : Hp} {k : Nat} {v : Int32} (hk : k < nW (pageS h 49)) (hw : nW (pageS h 49) ≤ 5) (hm : nM (pageS h 49) ≤ 6) : pageS (sI h 49 (19 + k) v) 49 = setS (pageS h 49) 0 k v :=
  page_of (gI_sN (by omega)) (gI_sN (by omega)) (by rw [if_neg (by omega)]; exact gI_sM (by omega)) (by rw [if_neg (by omega)]; exact gI_sM (by omega)) (fun q _ => by rw [gI_sI]; by_cases z : q = k; rw [if_pos ⟨rfl, by omega⟩, if_pos ⟨rfl, z⟩]; rw [if_neg (fun y => z (by omega)), if_neg (fun y => z y.2)]) (fun q _ => by rw [if_neg (by omega)]; exact gI_sM (by omega)) (fun q _ => gI_sN (by omega)) (fun q _ => gI_sM (by omega)) (fun q _ => gI_sN (by omega)) (Or.inl ⟨rfl, hk⟩) (fun z => absurd z (by decide))
theorem page_s16 {h : Hp} {v : Int32} (hw : nW (pageS h 49) ≤ 5) (hm : nM (pageS h 49) ≤ 6) : pageS (sI h 49 16 v) 49 = setS (pageS h 49) 5 2 v :=
  page_of (gI_sN (by omega)) (gI_sN (by omega)) (by rw [if_pos ⟨rfl, rfl⟩]; exact gI_sS _ _ _ _) (by rw [if_neg (by omega)]; exact gI_sM (by omega)) (fun q _ => by rw [if_neg (by omega)]; exact gI_sM (by omega)) (fun q _ => by rw [if_neg (by omega)]; exact gI_sM (by omega)) (fun q _ => gI_sN (by omega)) (fun q _ => gI_sM (by omega)) (fun q _ => gI_sN (by omega)) (Or.inr (Or.inr (Or.inl ⟨rfl, Or.inl rfl⟩))) (fun z => absurd z (by decide))
theorem page_s17 {h : Hp} {v : Int32} (hw : nW (pageS h 49) ≤ 5) (hm : nM (pageS h 49) ≤ 6) : pageS (sI h 49 17 v) 49 = setS (pageS h 49) 5 3 v :=
  page_of (gI_sN (by omega)) (gI_sN (by omega)) (by rw [if_neg (by omega)]; exact gI_sM (by omega)) (by rw [if_pos ⟨rfl, rfl⟩]; exact gI_sS _ _ _ _) (fun q _ => by rw [if_neg (by omega)]; exact gI_sM (by omega)) (fun q _ => by rw [if_neg (by omega)]; exact gI_sM (by omega)) (fun q _ => gI_sN (by omega)) (fun q _ => gI_sM (by omega)) (fun q _ => gI_sN (by omega)) (Or.inr (Or.inr (Or.inl ⟨rfl, Or.inr rfl⟩))) (fun z => absurd z (by decide))
theorem fc_cp {h : Hp} : FC h (cpN h 10 2 5 6) := ⟨rfl, fun c j q => by rw [gI_cp, if_neg (fun z => q (by unfold scC; omega)), if_neg (fun z => q (by unfold scC; omega)), if_neg (fun z => q (by unfold scC; omega))]⟩
theorem fc_sI {h : Hp} {a k : Nat} {v : Int32} (ha : scC a) : FC h (sI h a k v) := ⟨rfl, fun c j q => gI_sN (fun z => q (by rw [z]; exact ha))⟩
theorem fc_fill {h : Hp} {a n : Nat} {f : Nat → Int32} (ha : scC a) : FC h (fillA h a f n) := ⟨rfl, fun c j q => gI_fillN (fun z => q (by rw [z]; exact ha))⟩
theorem fm_bg {h : Hp} : FM h (bgH h) := ⟨rfl, fun c j q => gI_fillN (fun z => q (by unfold scM; omega))⟩
theorem fm_sI {h : Hp} {a k : Nat} {v : Int32} (ha : scM a k) : FM h (sI h a k v) := ⟨rfl, fun c j q => gI_sM (fun z => q (by rw [z.1, z.2]; exact ha))⟩

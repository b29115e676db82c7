/-! acts: what the class's remember does, what the reference's note does -/
def RMc (h h' : Hp) (na s na' : Nat) : Prop := gI h' 0 6 = nI na' ∧ Rows h' ∧ gL h' 0 14 = gL h 0 14 ∧ gL h' 42 24 = gL h 42 24 ∧ (∀ i, i + 1 < na' → ∀ r, gR h' 19 i = some r → ∃ r0, gR h 19 (i + s) = some r0 ∧ ∀ j, j < 19 → gI h' r j = gI h r0 j) ∧ (∀ r, gR h' 19 (na' - 1) = some r → ∀ j, j < 19 → gI h' r j = nowR h j) ∧ ∀ c j, ¬ ((c = 0 ∧ j = 6) ∨ (20 ≤ c ∧ c ≤ 33)) → gI h' c j = gI h c j
def RMm (h h' : Hp) (na s na' : Nat) : Prop := gI h' 42 17 = nI na' ∧ h'.2 = h.2 ∧ (∀ i, i + 1 < na' → ∀ j, j < 24 → gI h' 50 (24 * i + j) = gI h 50 (24 * (i + s) + j)) ∧ (∀ j, j < 24 → gI h' 50 (24 * (na' - 1) + j) = gI h 48 j) ∧ ∀ c j, ¬ ((c = 42 ∧ j = 17) ∨ c = 50) → gI h' c j = gI h c j
/-- how the row of acts grows -/
def grow (na : Nat) : Nat × Nat := if na = 14 then (1, 14) else (0, na + 1)
/-- both have kept the act, then both have done it -/
theorem act_rel {h hA h1 hT hB h2 : Hp} {n m na : Nat} (r0 : R_st h n m) (r1 : Rows h) (r2 : na ≤ 14 ∧ ∀ i, i < na → ∀ r, gR h 19 i = some r → SN n m (plF h) (gI h r) (fun j => gI h 50 (24 * i + j))) (r3 : R_sl h n m) (r4 : R_ct h) (r5 : R_tx h) (r6 : gL h 0 14 = gL h 42 24)
    (a : RMc h hA na (grow na).1 (grow na).2) (f1 : ∀ c j, ¬ (2 ≤ c ∧ c ≤ 9) → gI h1 c j = gI hA c j) (g1 : h1.2 = hA.2) (fT : ∀ c j, ¬ (c = 42 ∧ j = 0) → gI hT c j = gI h1 c j) (gT : hT.2 = h1.2) (b : RMm hT hB na (grow na).1 (grow na).2) (f2 : ∀ c j, ¬ (c = 48 ∧ j < 19) → ¬ scM c j → gI h2 c j = gI hB c j) (g2 : h2.2 = hB.2) (st : R_st h2 n m) : Rel h2 := by
  obtain ⟨a1, a2, a3, a3', a4, a5, a6⟩ := a
  obtain ⟨b1, b2, b3, b4, b5⟩ := b
  have hn := r0.1.1
  have hm := r0.2.1.1
  have eR : ∀ x k, gR h2 x k = gR hA x k := fun x k => by unfold gR; rw [g2, b2, gT, g1]
  have e2 : h2.2 = hA.2 := by rw [g2, b2, gT, g1]
  have hna : (grow na).2 ≤ 14 ∧ 1 ≤ (grow na).2 ∧ (grow na).2 - 1 + (grow na).1 = na := by
    unfold grow
    by_cases q : na = 14
    · rw [if_pos q]; exact ⟨by decide, by decide, by omega⟩
    · rw [if_neg q]; exact ⟨by show na + 1 ≤ 14; omega, by show 1 ≤ na + 1; omega, by show na + 1 - 1 + 0 = na; omega⟩
  -- cells that nobody touched
  have far : ∀ c j, ¬ ((c = 0 ∧ j = 6) ∨ (20 ≤ c ∧ c ≤ 33)) → ¬ (2 ≤ c ∧ c ≤ 9) → ¬ (c = 42 ∧ j = 0) → ¬ ((c = 42 ∧ j = 17) ∨ c = 50) → ¬ (c = 48 ∧ j < 19) → ¬ scM c j → gI h2 c j = gI h c j := fun c j q1 q2 q3 q4 q5 q6 => by
    rw [f2 c j q5 q6, b5 c j q4, fT c j q3, f1 c j q2, a6 c j q1]
  have hpl : ∀ k, plF h2 k = plF h k := fun k => far 48 (19 + k) (by omega) (by omega) (by omega) (by omega) (by omega) (by unfold scM; omega)
  refine ⟨n, m, st, a2.same e2, ⟨(grow na).2, ⟨hna.1, ?_, ?_⟩, fun i hi r hr => ?_⟩, ?_, ?_, ?_, ?_⟩
  · rw [f2 0 6 (by omega) (by unfold scM; omega), b5 0 6 (by omega), fT 0 6 (by omega), f1 0 6 (by omega)]; exact a1
  · rw [f2 42 17 (by omega) (by unfold scM; omega)]; exact b1
  · rw [eR] at hr
    obtain ⟨rr, hrr, c1, c2⟩ := a2.1 i (by omega)
    have e3 : r = rr := Option.some.inj (hr.symm.trans hrr)
    subst e3
    have hrow : ∀ j, gI h2 r j = gI hA r j := fun j => by
      rw [f2 r j (by omega) (by unfold scM; omega), b5 r j (by omega), fT r j (by omega), f1 r j (by omega)]
    have h50 : ∀ j, gI h2 50 j = gI hB 50 j := fun j => f2 50 j (by omega) (by unfold scM; omega)
    by_cases q : i + 1 < (grow na).2
    · obtain ⟨ro, hro, hro2⟩ := a4 i q r hr
      refine (r2.2 (i + (grow na).1) (by omega) ro hro).to (fun j hj => ?_) (fun j hj => ?_) (fun k _ => hpl k) hn hm
      · rw [hrow]; exact hro2 j hj
      · show gI h2 50 _ = _
        rw [h50, b3 i q j hj, fT 50 _ (by omega), f1 50 _ (by omega), a6 50 _ (by omega)]
    · have ei : i = (grow na).2 - 1 := by omega
      subst ei
      refine r0.2.2.2.2.to (fun j hj => ?_) (fun j hj => ?_) (fun k _ => hpl k) hn hm
      · rw [hrow]; exact a5 r hr j hj
      · show gI h2 50 _ = _
        rw [h50, b4 j hj, fT 48 _ (by omega), f1 48 _ (by omega), a6 48 _ (by omega)]
  · exact r3.ag (fun c j q => by unfold T_sl at q; exact far c j (by omega) (by omega) (by omega) (by omega) (by omega) (by unfold scM; omega)) hn hm
  · exact r4.ag (fun c j q => by unfold T_ct at q; exact far c j (by omega) (by omega) (by omega) (by omega) (by omega) (by unfold scM; omega))
  · exact r5.ag (fun c j q => by unfold T_tx at q; exact far c j (by omega) (by omega) (by omega) (by omega) (by omega) (by unfold scM; omega))
  · have e4 : ∀ x k, gL h2 x k = gL hA x k := fun x k => by unfold gL; rw [e2]
    rw [e4, e4, a3, a3']; exact r6
/-- the rows rotated as far as i -/
def rotN (h : Hp) (i : Nat) : Hp := (h.1, h.2.1, fun b j => if b = 19 ∧ j < i then h.2.2 19 (j + 1) else h.2.2 b j)
theorem gR_rot (h : Hp) (i b j : Nat) : gR (rotN h i) b j = if b = 19 ∧ j < i then gR h 19 (j + 1) else gR h b j := rfl
theorem rot_s (h : Hp) (i : Nat) {v : Option Nat} (hv : v = gR h 19 (i + 1)) : sR (rotN h i) 19 i v = rotN h (i + 1) := by
  refine Prod.ext rfl (Prod.ext rfl (funext fun b => funext fun j => ?_))
  show (if b = 19 ∧ j = i then v else gR (rotN h i) b j) = gR (rotN h (i + 1)) b j
  rw [gR_rot, gR_rot, hv]
  by_cases e : b = 19 ∧ j = i
  · rw [if_pos e, if_pos ⟨e.1, by omega⟩, e.2]
  · rw [if_neg e]
    by_cases e2 : b = 19 ∧ j < i
    · rw [if_pos e2, if_pos ⟨e2.1, by omega⟩]
    · rw [if_neg e2, if_neg (fun q => by rcases q with ⟨q1, q2⟩; by_cases q3 : j = i; exact e ⟨q1, q3⟩; exact e2 ⟨q1, by omega⟩)]
theorem rot_0 (h : Hp) : rotN h 0 = h := by
  refine Prod.ext rfl (Prod.ext rfl (funext fun b => funext fun j => ?_))
  show gR (rotN h 0) b j = gR h b j
  rw [gR_rot, if_neg (fun q => by omega)]
def rotH (h : Hp) : Hp := sI (sR (rotN h 13) 19 13 (gR h 19 0)) 0 6 13
theorem gR_rotH (h : Hp) {i : Nat} (hi : i < 14) : gR (rotH h) 19 i = if i < 13 then gR h 19 (i + 1) else gR h 19 0 := by
  show gR (sR (rotN h 13) 19 13 (gR h 19 0)) 19 i = _
  rw [gR_sR, gR_rot]
  by_cases q : i < 13
  · rw [if_neg (fun z => by omega), if_pos ⟨rfl, q⟩, if_pos q]
  · rw [if_pos ⟨rfl, by omega⟩, if_neg q]
theorem gR_rot34 (h : Hp) (j : Nat) : gR (rotH h) 34 j = gR h 34 j := by
  show gR (sR (rotN h 13) 19 13 (gR h 19 0)) 34 j = _
  rw [gR_sR, gR_rot, if_neg (fun z => by omega), if_neg (fun z => by omega)]
theorem rows_rot {h : Hp} (r : Rows h) : Rows (rotH h) := by
  obtain ⟨r1, r2, r3, r4⟩ := r
  refine ⟨fun i hi => ?_, fun i j hi hj e => ?_, by rw [gR_rot34]; exact r3, by rw [gR_rot34]; exact r4⟩
  · rw [gR_rotH h hi]
    by_cases q : i < 13
    · rw [if_pos q]; exact r1 (i + 1) (by omega)
    · rw [if_neg q]; exact r1 0 (by omega)
  · rw [gR_rotH h hi, gR_rotH h hj] at e
    by_cases q : i < 13 <;> by_cases q2 : j < 13
    · rw [if_pos q, if_pos q2] at e; have := r2 _ _ (by omega) (by omega) e; omega
    · rw [if_pos q, if_neg q2] at e; have := r2 _ _ (by omega) (by omega) e; omega
    · rw [if_neg q, if_pos q2] at e; have := r2 _ _ (by omega) (by omega) e; omega
    · omega
theorem row_sh {r : Nat} (h1 : 20 ≤ r) (h2 : r ≤ 33) : SH[r]? = some (.inl (0, 19)) := by
  obtain ⟨k, rfl⟩ : ∃ k, r = 20 + k := ⟨r - 20, by omega⟩
  have : k < 14 := by omega
  match k, this with
  | 0, _ => rfl
  | 1, _ => rfl
  | 2, _ => rfl
  | 3, _ => rfl
  | 4, _ => rfl
  | 5, _ => rfl
  | 6, _ => rfl
  | 7, _ => rfl
  | 8, _ => rfl
  | 9, _ => rfl
  | 10, _ => rfl
  | 11, _ => rfl
  | 12, _ => rfl
  | 13, _ => rfl
  | k + 14, q => exact absurd q (by omega)
theorem sv_now {h : Hp} {r j : Nat} (hj : j < 19) : gI (svN h 2 r 5 6 3) r j = nowR h j := by
  rw [gI_sv, if_pos rfl]
  unfold nowR
  by_cases q1 : j < 5
  · rw [if_pos q1, if_pos q1, if_pos q1]
  · rw [if_neg q1, if_neg q1]
    by_cases q2 : j < 11
    · rw [if_pos q2, if_pos (by omega), if_pos q2]
    · rw [if_neg q2, if_neg q2]
      by_cases q3 : j < 16
      · rw [if_pos q3, if_pos (by omega), if_pos q3]
      · rw [if_neg q3, if_neg q3, if_pos (by omega)]

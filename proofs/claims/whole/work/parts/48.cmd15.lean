def offS (S : St) (a b x y : Nat) : St := if y = 0 then setS (if x = 0 then setS S 1 a 0 else S) 1 b 0 else (if x = 0 then setS S 1 a 0 else S)
def gnF (T : St) (a x : Nat) : Int32 := if x = 1 then 5 - owedF T a else if readF T a then 3 else 0
def gainF (S : St) (a b x y : Nat) : Int32 := gnF (offS S a b x y) a x
theorem off_wf {S : St} (hF : WFS S) (a b x y : Nat) : WFS (offS S a b x y) := by
  unfold offS
  by_cases hx : x = 0
  · rw [if_pos hx]
    by_cases hy : y = 0
    · rw [if_pos hy]; exact wf_set1 (b := 0) (wf_set1 (b := 0) hF (by decide)) (by decide)
    · rw [if_neg hy]; exact wf_set1 (b := 0) hF (by decide)
  · rw [if_neg hx]
    by_cases hy : y = 0
    · rw [if_pos hy]; exact wf_set1 (b := 0) hF (by decide)
    · rw [if_neg hy]; exact hF
theorem off_nW {S : St} (a b x y : Nat) : nW (offS S a b x y) = nW S := by
  unfold offS
  by_cases hx : x = 0
  · rw [if_pos hx]
    by_cases hy : y = 0
    · rw [if_pos hy, nW_set (by omega), nW_set (by omega)]
    · rw [if_neg hy, nW_set (by omega)]
  · rw [if_neg hx]
    by_cases hy : y = 0
    · rw [if_pos hy, nW_set (by omega)]
    · rw [if_neg hy]
theorem set_comm (S : St) (r a b : Nat) (v : Int32) : setS (setS S r a v) r b v = setS (setS S r b v) r a v := by
  funext r' k
  unfold setS
  by_cases c1 : r' = r ∧ k = b <;> by_cases c2 : r' = r ∧ k = a
  · rw [if_pos c1, if_pos c2]
  · rw [if_pos c1, if_neg c2, if_pos c1]
  · rw [if_neg c1, if_pos c2]
    rw [if_pos c2]
  · rw [if_neg c1, if_neg c2, if_neg c2, if_neg c1]
theorem off_comm (S : St) (a b x y : Nat) : offS S a b x y = offS S b a y x := by
  unfold offS
  by_cases hx : x = 0
  · by_cases hy : y = 0
    · rw [if_pos hx, if_pos hy, if_pos hx, if_pos hy, set_comm]
    · rw [if_pos hx, if_neg hy, if_pos hx, if_neg hy]
  · by_cases hy : y = 0
    · simp only [if_neg hx, if_pos hy]
    · simp only [if_neg hx, if_neg hy]
theorem off_mul {S : St} {a b x y : Nat} (hx : x < 2) (hy : y < 2) : setS (setS S 1 a (S 1 a * nI x)) 1 b (setS S 1 a (S 1 a * nI x) 1 b * nI y) = offS S a b x y := by
  have e : ∀ (T : St) (c z : Nat), z < 2 → setS T 1 c (T 1 c * nI z) = if z = 0 then setS T 1 c 0 else T := fun T c z hz => by
    by_cases h0 : z = 0
    · rw [if_pos h0, h0, show nI 0 = 0 from rfl, Int32.mul_zero]
    · rw [if_neg h0, show z = 1 by omega, show nI 1 = 1 from rfl, Int32.mul_one, set_id]
  rw [e _ _ _ hy, e _ _ _ hx]
  rfl
def stB (S : St) (a b k : Nat) : Bool := decide (gainF S a b (1 - k / 2) (k % 2) ≤ gainF S a b (k / 2) (k % 2)) && decide (gainF S b a (1 - k % 2) (k / 2) ≤ gainF S b a (k % 2) (k / 2))
def rsN (S : St) (a b : Nat) : Nat → Int32 × Int32
  | 0 => (0, -9)
  | k + 1 => if stB S a b k then ((rsN S a b k).1 + 1, if (rsN S a b k).2 = -9 then 10 * nI (k / 2) + nI (k % 2) else (rsN S a b k).2) else rsN S a b k
theorem rs_9 {S : St} {a b : Nat} : ∀ k, k ≤ 4 → (∃ m, m ≤ k ∧ (rsN S a b k).1 = nI m ∧ (m = 0 ↔ (rsN S a b k).2 = -9))
  | 0, _ => ⟨0, Nat.le_refl _, rfl, fun _ => rfl, fun _ => rfl⟩
  | k + 1, h => by
    obtain ⟨m, h1, h2, h3⟩ := rs_9 (S := S) (a := a) (b := b) k (by omega)
    show ∃ m, m ≤ k + 1 ∧ (if stB S a b k then ((rsN S a b k).1 + 1, if (rsN S a b k).2 = -9 then 10 * nI (k / 2) + nI (k % 2) else (rsN S a b k).2) else rsN S a b k).1 = nI m ∧ (m = 0 ↔ (if stB S a b k then ((rsN S a b k).1 + 1, if (rsN S a b k).2 = -9 then 10 * nI (k / 2) + nI (k % 2) else (rsN S a b k).2) else rsN S a b k).2 = -9)
    by_cases c : stB S a b k
    · rw [if_pos c]
      refine ⟨m + 1, by omega, by rw [h2]; exact nI_1 m, fun z => by omega, fun z => ?_⟩
      exfalso
      by_cases c2 : (rsN S a b k).2 = -9
      · have z2 : (if (rsN S a b k).2 = -9 then 10 * nI (k / 2) + nI (k % 2) else (rsN S a b k).2) = -9 := z
        rw [if_pos c2, m10] at z2
        exact nI9 (by omega) z2
      · have z2 : (if (rsN S a b k).2 = -9 then 10 * nI (k / 2) + nI (k % 2) else (rsN S a b k).2) = -9 := z
        rw [if_neg c2] at z2
        exact c2 z2
    · rw [if_neg c]
      exact ⟨m, by omega, h2, h3⟩
theorem rs_z {S : St} {a b k : Nat} (hk : k ≤ 4) : (rsN S a b k).1 = 0 ↔ (rsN S a b k).2 = -9 := by
  obtain ⟨m, h1, h2, h3⟩ := rs_9 (S := S) (a := a) (b := b) k hk
  rw [← h3, h2]
  exact nI_eq (b := 0) (by omega) (by decide)
def resF (S : St) (w o t : Int32) : Int32 := if bI w (nW S) = 0 then -1 else if bI o (nW S) = 0 then -1 else if w = o then -2 else if t < 0 ∨ 1 < t then -2 else if t = 0 then (rsN S w.toNatClampNeg o.toNatClampNeg 4).1 else (rsN S w.toNatClampNeg o.toNatClampNeg 4).2
theorem st_y {S : St} {a b k : Nat} (h1 : gainF S a b (1 - k / 2) (k % 2) ≤ gainF S a b (k / 2) (k % 2)) (h2 : gainF S b a (1 - k % 2) (k / 2) ≤ gainF S b a (k % 2) (k / 2)) : stB S a b k = true := by
  unfold stB
  rw [show decide (gainF S a b (1 - k / 2) (k % 2) ≤ gainF S a b (k / 2) (k % 2)) = true by simpa using h1, show decide (gainF S b a (1 - k % 2) (k / 2) ≤ gainF S b a (k % 2) (k / 2)) = true by simpa using h2]; rfl
theorem st_n1 {S : St} {a b k : Nat} (h1 : ¬ gainF S a b (1 - k / 2) (k % 2) ≤ gainF S a b (k / 2) (k % 2)) : stB S a b k = false := by
  unfold stB
  rw [show decide (gainF S a b (1 - k / 2) (k % 2) ≤ gainF S a b (k / 2) (k % 2)) = false by simp only [decide_eq_false_iff_not]; exact h1]; rfl
theorem st_n2 {S : St} {a b k : Nat} (h2 : ¬ gainF S b a (1 - k % 2) (k / 2) ≤ gainF S b a (k % 2) (k / 2)) : stB S a b k = false := by
  unfold stB
  rw [show decide (gainF S b a (1 - k % 2) (k / 2) ≤ gainF S b a (k % 2) (k / 2)) = false by simp only [decide_eq_false_iff_not]; exact h2]; simp
theorem rs_y {S : St} {a b k : Nat} (h : stB S a b k = true) : rsN S a b (k + 1) = ((rsN S a b k).1 + 1, if (rsN S a b k).2 = -9 then 10 * nI (k / 2) + nI (k % 2) else (rsN S a b k).2) := by
  show (if stB S a b k then _ else _) = _
  rw [h]; rfl
theorem rs_n {S : St} {a b k : Nat} (h : stB S a b k = false) : rsN S a b (k + 1) = rsN S a b k := by
  show (if stB S a b k then _ else _) = _
  rw [h]; rfl
theorem nle_lt {x y : Int32} : ¬ x ≤ y ↔ y < x := by rw [i_le, i_lt]; omega
theorem nlt_le {x y : Int32} : ¬ x < y ↔ y ≤ x := by rw [i_le, i_lt]; omega
theorem d2 {k : Nat} (hk : k < 4) : nI k / 2 = nI (k / 2) ∧ nI k - nI k / 2 * 2 = nI (k % 2) ∧ 1 - nI (k / 2) = nI (1 - k / 2) ∧ 1 - nI (k % 2) = nI (1 - k % 2) := by
  refine ⟨?_, ?_, ?_, ?_⟩
  · exact pk_div (d := 2) (by omega) (by decide) (by decide)
  · exact pk_rem (d := 2) (by omega) (by decide) (by decide)
  · exact pk_sub (a := 1) (by omega)
  · exact pk_sub (a := 1) (by omega)
theorem c_gain {l : Launch} {D : va_G} {base : Nat} {h : Hp} (hF : WFS (laneS h 2)) {a b x y : Nat} (ha : a < nW (laneS h 2)) (hb : b < nW (laneS h 2)) (hx : x < 2) (hy : y < 2) : SI l D base M_Lm_gain [.ref 0, .int (nI a), .int (nI b), .int (nI x), .int (nI y)] h (fun g v => FC h g ∧ v = gainF (laneS h 2) a b x y) := by
  have hw5 := hF.1.1
  have hm6 := hF.2.1.1
  have hca := cl_nI (show a < 2 ^ 31 by omega)
  have hcb := cl_nI (show b < 2 ^ 31 by omega)
  have hlc := lane_cp hw5 hm6
  have g00 : SI l D base M_Lm_gain [.ref 0, .int (nI a), .int (nI b), .int (nI 0), .int (nI 0)] h (fun g v => FC h g ∧ v = gainF (laneS h 2) a b 0 0) := by
    refine SP.of [some (.ref 0), some (.int (nI a)), some (.int (nI b)), some (.int (nI 0)), some (.int (nI 0))] (by decide) rfl (Nat.le_of_ble_eq_true rfl) ?_
    have eL : laneS (sI (sI (cpN h 10 2 5 6) (10 + 2) a 0) (10 + 2) b 0) 10 = (offS (laneS h 2) a b 0 0) := by
      rw [lane_s1 (by rw [lane_s1 (by rw [hlc]; exact ha), nW_set (by omega), hlc]; exact hb), lane_s1 (by rw [hlc]; exact ha), hlc]; rfl
    have hTF : WFS (offS (laneS h 2) a b 0 0) := off_wf hF _ _ _ _
    have hTa : a < nW (offS (laneS h 2) a b 0 0) := by rw [off_nW]; exact ha
    refine wh_aload_n (pc := 0) d_Lm_gain_0 rfl rfl ?_
    refine gf_Lm_20 (pc := 1) rfl d_Lm_gain_1 ?_
    refine wh_iload_n (pc := 4) d_Lm_gain_4 rfl rfl ?_
    refine cv_Lm_101_d (pc := 5) (Or.inl rfl) rfl d_Lm_gain_5 ⟨⟨by decide, by decide⟩, rfl, rfl⟩ (s_hasWindow (Or.inl rfl) (wf_w hF) hw5) (Nat.le_of_ble_eq_true rfl) ?_
    refine wh_if_eq (pc := 8) (tgt := 22) d_Lm_gain_8 (by decide) (fun c_8 => absurd c_8 (bI_k ha (by omega))) (fun c_8 => ?_)
    refine wh_aload_n (pc := 11) d_Lm_gain_11 rfl rfl ?_
    refine gf_Lm_20 (pc := 12) rfl d_Lm_gain_12 ?_
    refine wh_iload_n (pc := 15) d_Lm_gain_15 rfl rfl ?_
    refine cv_Lm_101_d (pc := 16) (Or.inl rfl) rfl d_Lm_gain_16 ⟨⟨by decide, by decide⟩, rfl, rfl⟩ (s_hasWindow (Or.inl rfl) (wf_w hF) hw5) (Nat.le_of_ble_eq_true rfl) ?_
    refine wh_if_ne (pc := 19) (tgt := 24) d_Lm_gain_19 (by decide) (fun c_19 => ?_) (fun c_19 => absurd c_19 (bI_k hb (by omega)))
    refine wh_aload_n (pc := 24) d_Lm_gain_24 rfl rfl ?_
    refine gf_Lm_24 (pc := 25) rfl d_Lm_gain_25 ?_
    refine wh_aload_n (pc := 28) d_Lm_gain_28 rfl rfl ?_
    refine gf_Lm_20 (pc := 29) rfl d_Lm_gain_29 ?_
    refine cv_Lm_72_d (pc := 32) (Or.inr rfl) rfl d_Lm_gain_32 ⟨⟨by decide, by decide⟩, rfl, rfl⟩ (s_copy (Or.inr rfl) (Or.inl rfl) (by decide)) (Nat.le_of_ble_eq_true rfl) ?_
    refine wh_iload_n (pc := 35) d_Lm_gain_35 rfl rfl ?_
    refine wh_if_ne (pc := 36) (tgt := 49) d_Lm_gain_36 (by decide) (fun c_36 => absurd rfl c_36) (fun c_36 => ?_)
    refine wh_aload_n (pc := 39) d_Lm_gain_39 rfl rfl ?_
    refine gf_Lm_24 (pc := 40) rfl d_Lm_gain_40 ?_
    refine gf_Lm_108 (pc := 43) (Or.inr rfl) rfl d_Lm_gain_43 ?_
    refine wh_iload_n (pc := 46) d_Lm_gain_46 rfl rfl ?_
    refine wh_iconst (pc := 47) (v := 0) d_Lm_gain_47 (by decide) ?_
    refine wh_iast (pc := 48) d_Lm_gain_48 (la_burns (Or.inr rfl)) (in_nI (by omega) (by omega)) ?_
    rw [hca]
    refine wh_iload (pc := 49) d_Lm_gain_49 rfl ?_
    refine wh_if_ne (pc := 51) (tgt := 64) d_Lm_gain_51 (by decide) (fun c_51 => absurd rfl c_51) (fun c_51 => ?_)
    refine wh_aload_n (pc := 54) d_Lm_gain_54 rfl rfl ?_
    refine gf_Lm_24 (pc := 55) rfl d_Lm_gain_55 ?_
    refine gf_Lm_108 (pc := 58) (Or.inr rfl) rfl d_Lm_gain_58 ?_
    refine wh_iload_n (pc := 61) d_Lm_gain_61 rfl rfl ?_
    refine wh_iconst (pc := 62) (v := 0) d_Lm_gain_62 (by decide) ?_
    refine wh_iast (pc := 63) d_Lm_gain_63 (la_burns (Or.inr rfl)) (in_nI (by omega) (by omega)) ?_
    rw [hcb]
    refine wh_iload_n (pc := 64) d_Lm_gain_64 rfl rfl ?_
    refine wh_iconst (pc := 65) (v := 1) d_Lm_gain_65 (by decide) ?_
    refine wh_icmp_ne (pc := 66) (tgt := 80) d_Lm_gain_66 (by decide) (fun c_66 => ?_) (fun c_66 => absurd c_66 (by decide))
    refine wh_aload_n (pc := 80) d_Lm_gain_80 rfl rfl ?_
    refine gf_Lm_24 (pc := 81) rfl d_Lm_gain_81 ?_
    refine wh_iload_n (pc := 84) d_Lm_gain_84 rfl rfl ?_
    refine cv_Lm_124_d (pc := 85) (Or.inr rfl) rfl d_Lm_gain_85 ⟨⟨by decide, by decide⟩, rfl, rfl⟩ (s_reads (Or.inr rfl) eL hTF hTa) (Nat.le_of_ble_eq_true rfl) ?_
    refine wh_if_eq (pc := 88) (tgt := 95) d_Lm_gain_88 (by decide) (fun c_88 => ?_) (fun c_88 => ?_)
    · refine wh_iconst (pc := 95) (v := 0) d_Lm_gain_95 (by decide) ?_
      refine wh_iret (pc := 96) d_Lm_gain_96 rfl ?_
      refine ⟨_, rfl, ((fc_cp.tr (fc_sI (by unfold scC; omega))).tr (fc_sI (by unfold scC; omega))), ?_⟩
      first | rfl | (show _ = if readF (offS (laneS h 2) a b 0 0) a then (3 : Int32) else 0; rw [t01] at c_88; first | (rw [c_88]; rfl) | (rw [show readF (offS (laneS h 2) a b 0 0) a = true by simpa using c_88]; rfl))
    · refine wh_iconst (pc := 91) (v := 3) d_Lm_gain_91 (by decide) ?_
      refine wh_goto (pc := 92) (tgt := 96) d_Lm_gain_92 (by decide) ?_
      refine wh_iret (pc := 96) d_Lm_gain_96 rfl ?_
      refine ⟨_, rfl, ((fc_cp.tr (fc_sI (by unfold scC; omega))).tr (fc_sI (by unfold scC; omega))), ?_⟩
      first | rfl | (show _ = if readF (offS (laneS h 2) a b 0 0) a then (3 : Int32) else 0; rw [t01] at c_88; first | (rw [c_88]; rfl) | (rw [show readF (offS (laneS h 2) a b 0 0) a = true by simpa using c_88]; rfl))
  have g01 : SI l D base M_Lm_gain [.ref 0, .int (nI a), .int (nI b), .int (nI 0), .int (nI 1)] h (fun g v => FC h g ∧ v = gainF (laneS h 2) a b 0 1) := by
    refine SP.of [some (.ref 0), some (.int (nI a)), some (.int (nI b)), some (.int (nI 0)), some (.int (nI 1))] (by decide) rfl (Nat.le_of_ble_eq_true rfl) ?_
    have eL : laneS (sI (cpN h 10 2 5 6) (10 + 2) a 0) 10 = (offS (laneS h 2) a b 0 1) := by
      rw [lane_s1 (by rw [hlc]; exact ha), hlc]; rfl
    have hTF : WFS (offS (laneS h 2) a b 0 1) := off_wf hF _ _ _ _
    have hTa : a < nW (offS (laneS h 2) a b 0 1) := by rw [off_nW]; exact ha
    refine wh_aload_n (pc := 0) d_Lm_gain_0 rfl rfl ?_
    refine gf_Lm_20 (pc := 1) rfl d_Lm_gain_1 ?_
    refine wh_iload_n (pc := 4) d_Lm_gain_4 rfl rfl ?_
    refine cv_Lm_101_d (pc := 5) (Or.inl rfl) rfl d_Lm_gain_5 ⟨⟨by decide, by decide⟩, rfl, rfl⟩ (s_hasWindow (Or.inl rfl) (wf_w hF) hw5) (Nat.le_of_ble_eq_true rfl) ?_
    refine wh_if_eq (pc := 8) (tgt := 22) d_Lm_gain_8 (by decide) (fun c_8 => absurd c_8 (bI_k ha (by omega))) (fun c_8 => ?_)
    refine wh_aload_n (pc := 11) d_Lm_gain_11 rfl rfl ?_
    refine gf_Lm_20 (pc := 12) rfl d_Lm_gain_12 ?_
    refine wh_iload_n (pc := 15) d_Lm_gain_15 rfl rfl ?_
    refine cv_Lm_101_d (pc := 16) (Or.inl rfl) rfl d_Lm_gain_16 ⟨⟨by decide, by decide⟩, rfl, rfl⟩ (s_hasWindow (Or.inl rfl) (wf_w hF) hw5) (Nat.le_of_ble_eq_true rfl) ?_
    refine wh_if_ne (pc := 19) (tgt := 24) d_Lm_gain_19 (by decide) (fun c_19 => ?_) (fun c_19 => absurd c_19 (bI_k hb (by omega)))
    refine wh_aload_n (pc := 24) d_Lm_gain_24 rfl rfl ?_
    refine gf_Lm_24 (pc := 25) rfl d_Lm_gain_25 ?_
    refine wh_aload_n (pc := 28) d_Lm_gain_28 rfl rfl ?_
    refine gf_Lm_20 (pc := 29) rfl d_Lm_gain_29 ?_
    refine cv_Lm_72_d (pc := 32) (Or.inr rfl) rfl d_Lm_gain_32 ⟨⟨by decide, by decide⟩, rfl, rfl⟩ (s_copy (Or.inr rfl) (Or.inl rfl) (by decide)) (Nat.le_of_ble_eq_true rfl) ?_
    refine wh_iload_n (pc := 35) d_Lm_gain_35 rfl rfl ?_
    refine wh_if_ne (pc := 36) (tgt := 49) d_Lm_gain_36 (by decide) (fun c_36 => absurd rfl c_36) (fun c_36 => ?_)
    refine wh_aload_n (pc := 39) d_Lm_gain_39 rfl rfl ?_
    refine gf_Lm_24 (pc := 40) rfl d_Lm_gain_40 ?_
    refine gf_Lm_108 (pc := 43) (Or.inr rfl) rfl d_Lm_gain_43 ?_
    refine wh_iload_n (pc := 46) d_Lm_gain_46 rfl rfl ?_
    refine wh_iconst (pc := 47) (v := 0) d_Lm_gain_47 (by decide) ?_
    refine wh_iast (pc := 48) d_Lm_gain_48 (la_burns (Or.inr rfl)) (in_nI (by omega) (by omega)) ?_
    rw [hca]
    refine wh_iload (pc := 49) d_Lm_gain_49 rfl ?_
    refine wh_if_ne (pc := 51) (tgt := 64) d_Lm_gain_51 (by decide) (fun c_51 => ?_) (fun c_51 => absurd c_51 (by decide))
    refine wh_iload_n (pc := 64) d_Lm_gain_64 rfl rfl ?_
    refine wh_iconst (pc := 65) (v := 1) d_Lm_gain_65 (by decide) ?_
    refine wh_icmp_ne (pc := 66) (tgt := 80) d_Lm_gain_66 (by decide) (fun c_66 => ?_) (fun c_66 => absurd c_66 (by decide))
    refine wh_aload_n (pc := 80) d_Lm_gain_80 rfl rfl ?_
    refine gf_Lm_24 (pc := 81) rfl d_Lm_gain_81 ?_
    refine wh_iload_n (pc := 84) d_Lm_gain_84 rfl rfl ?_
    refine cv_Lm_124_d (pc := 85) (Or.inr rfl) rfl d_Lm_gain_85 ⟨⟨by decide, by decide⟩, rfl, rfl⟩ (s_reads (Or.inr rfl) eL hTF hTa) (Nat.le_of_ble_eq_true rfl) ?_
    refine wh_if_eq (pc := 88) (tgt := 95) d_Lm_gain_88 (by decide) (fun c_88 => ?_) (fun c_88 => ?_)
    · refine wh_iconst (pc := 95) (v := 0) d_Lm_gain_95 (by decide) ?_
      refine wh_iret (pc := 96) d_Lm_gain_96 rfl ?_
      refine ⟨_, rfl, (fc_cp.tr (fc_sI (by unfold scC; omega))), ?_⟩
      first | rfl | (show _ = if readF (offS (laneS h 2) a b 0 1) a then (3 : Int32) else 0; rw [t01] at c_88; first | (rw [c_88]; rfl) | (rw [show readF (offS (laneS h 2) a b 0 1) a = true by simpa using c_88]; rfl))
    · refine wh_iconst (pc := 91) (v := 3) d_Lm_gain_91 (by decide) ?_
      refine wh_goto (pc := 92) (tgt := 96) d_Lm_gain_92 (by decide) ?_
      refine wh_iret (pc := 96) d_Lm_gain_96 rfl ?_
      refine ⟨_, rfl, (fc_cp.tr (fc_sI (by unfold scC; omega))), ?_⟩
      first | rfl | (show _ = if readF (offS (laneS h 2) a b 0 1) a then (3 : Int32) else 0; rw [t01] at c_88; first | (rw [c_88]; rfl) | (rw [show readF (offS (laneS h 2) a b 0 1) a = true by simpa using c_88]; rfl))
  have g10 : SI l D base M_Lm_gain [.ref 0, .int (nI a), .int (nI b), .int (nI 1), .int (nI 0)] h (fun g v => FC h g ∧ v = gainF (laneS h 2) a b 1 0) := by
    refine SP.of [some (.ref 0), some (.int (nI a)), some (.int (nI b)), some (.int (nI 1)), some (.int (nI 0))] (by decide) rfl (Nat.le_of_ble_eq_true rfl) ?_
    have eL : laneS (sI (cpN h 10 2 5 6) (10 + 2) b 0) 10 = (offS (laneS h 2) a b 1 0) := by
      rw [lane_s1 (by rw [hlc]; exact hb), hlc]; rfl
    have hTF : WFS (offS (laneS h 2) a b 1 0) := off_wf hF _ _ _ _
    have hTa : a < nW (offS (laneS h 2) a b 1 0) := by rw [off_nW]; exact ha
    refine wh_aload_n (pc := 0) d_Lm_gain_0 rfl rfl ?_
    refine gf_Lm_20 (pc := 1) rfl d_Lm_gain_1 ?_
    refine wh_iload_n (pc := 4) d_Lm_gain_4 rfl rfl ?_
    refine cv_Lm_101_d (pc := 5) (Or.inl rfl) rfl d_Lm_gain_5 ⟨⟨by decide, by decide⟩, rfl, rfl⟩ (s_hasWindow (Or.inl rfl) (wf_w hF) hw5) (Nat.le_of_ble_eq_true rfl) ?_
    refine wh_if_eq (pc := 8) (tgt := 22) d_Lm_gain_8 (by decide) (fun c_8 => absurd c_8 (bI_k ha (by omega))) (fun c_8 => ?_)
    refine wh_aload_n (pc := 11) d_Lm_gain_11 rfl rfl ?_
    refine gf_Lm_20 (pc := 12) rfl d_Lm_gain_12 ?_
    refine wh_iload_n (pc := 15) d_Lm_gain_15 rfl rfl ?_
    refine cv_Lm_101_d (pc := 16) (Or.inl rfl) rfl d_Lm_gain_16 ⟨⟨by decide, by decide⟩, rfl, rfl⟩ (s_hasWindow (Or.inl rfl) (wf_w hF) hw5) (Nat.le_of_ble_eq_true rfl) ?_
    refine wh_if_ne (pc := 19) (tgt := 24) d_Lm_gain_19 (by decide) (fun c_19 => ?_) (fun c_19 => absurd c_19 (bI_k hb (by omega)))
    refine wh_aload_n (pc := 24) d_Lm_gain_24 rfl rfl ?_
    refine gf_Lm_24 (pc := 25) rfl d_Lm_gain_25 ?_
    refine wh_aload_n (pc := 28) d_Lm_gain_28 rfl rfl ?_
    refine gf_Lm_20 (pc := 29) rfl d_Lm_gain_29 ?_
    refine cv_Lm_72_d (pc := 32) (Or.inr rfl) rfl d_Lm_gain_32 ⟨⟨by decide, by decide⟩, rfl, rfl⟩ (s_copy (Or.inr rfl) (Or.inl rfl) (by decide)) (Nat.le_of_ble_eq_true rfl) ?_
    refine wh_iload_n (pc := 35) d_Lm_gain_35 rfl rfl ?_
    refine wh_if_ne (pc := 36) (tgt := 49) d_Lm_gain_36 (by decide) (fun c_36 => ?_) (fun c_36 => absurd c_36 (by decide))
    refine wh_iload (pc := 49) d_Lm_gain_49 rfl ?_
    refine wh_if_ne (pc := 51) (tgt := 64) d_Lm_gain_51 (by decide) (fun c_51 => absurd rfl c_51) (fun c_51 => ?_)
    refine wh_aload_n (pc := 54) d_Lm_gain_54 rfl rfl ?_
    refine gf_Lm_24 (pc := 55) rfl d_Lm_gain_55 ?_
    refine gf_Lm_108 (pc := 58) (Or.inr rfl) rfl d_Lm_gain_58 ?_
    refine wh_iload_n (pc := 61) d_Lm_gain_61 rfl rfl ?_
    refine wh_iconst (pc := 62) (v := 0) d_Lm_gain_62 (by decide) ?_
    refine wh_iast (pc := 63) d_Lm_gain_63 (la_burns (Or.inr rfl)) (in_nI (by omega) (by omega)) ?_
    rw [hcb]
    refine wh_iload_n (pc := 64) d_Lm_gain_64 rfl rfl ?_
    refine wh_iconst (pc := 65) (v := 1) d_Lm_gain_65 (by decide) ?_
    refine wh_icmp_ne (pc := 66) (tgt := 80) d_Lm_gain_66 (by decide) (fun c_66 => absurd rfl c_66) (fun c_66 => ?_)
    refine wh_iconst (pc := 69) (v := 5) d_Lm_gain_69 (by decide) ?_
    refine wh_aload_n (pc := 70) d_Lm_gain_70 rfl rfl ?_
    refine gf_Lm_24 (pc := 71) rfl d_Lm_gain_71 ?_
    refine wh_iload_n (pc := 74) d_Lm_gain_74 rfl rfl ?_
    refine cv_Lm_114_d (pc := 75) (Or.inr rfl) rfl d_Lm_gain_75 ⟨⟨by decide, by decide⟩, rfl, rfl⟩ (s_owedBy (Or.inr rfl) eL hTF hTa) (Nat.le_of_ble_eq_true rfl) ?_
    refine wh_isub (pc := 78) d_Lm_gain_78 ?_
    refine wh_iret (pc := 79) d_Lm_gain_79 rfl ?_
    refine ⟨_, rfl, (fc_cp.tr (fc_sI (by unfold scC; omega))).tr (fc_fill (by unfold scC; omega)), ?_⟩
    first | rfl | (show _ = if readF (offS (laneS h 2) a b 1 0) a then (3 : Int32) else 0; rw [t01] at c_88; first | (rw [c_88]; rfl) | (rw [show readF (offS (laneS h 2) a b 1 0) a = true by simpa using c_88]; rfl))
  have g11 : SI l D base M_Lm_gain [.ref 0, .int (nI a), .int (nI b), .int (nI 1), .int (nI 1)] h (fun g v => FC h g ∧ v = gainF (laneS h 2) a b 1 1) := by
    refine SP.of [some (.ref 0), some (.int (nI a)), some (.int (nI b)), some (.int (nI 1)), some (.int (nI 1))] (by decide) rfl (Nat.le_of_ble_eq_true rfl) ?_
    have eL : laneS (cpN h 10 2 5 6) 10 = (offS (laneS h 2) a b 1 1) := by
      exact hlc
    have hTF : WFS (offS (laneS h 2) a b 1 1) := off_wf hF _ _ _ _
    have hTa : a < nW (offS (laneS h 2) a b 1 1) := by rw [off_nW]; exact ha
    refine wh_aload_n (pc := 0) d_Lm_gain_0 rfl rfl ?_
    refine gf_Lm_20 (pc := 1) rfl d_Lm_gain_1 ?_
    refine wh_iload_n (pc := 4) d_Lm_gain_4 rfl rfl ?_
    refine cv_Lm_101_d (pc := 5) (Or.inl rfl) rfl d_Lm_gain_5 ⟨⟨by decide, by decide⟩, rfl, rfl⟩ (s_hasWindow (Or.inl rfl) (wf_w hF) hw5) (Nat.le_of_ble_eq_true rfl) ?_
    refine wh_if_eq (pc := 8) (tgt := 22) d_Lm_gain_8 (by decide) (fun c_8 => absurd c_8 (bI_k ha (by omega))) (fun c_8 => ?_)
    refine wh_aload_n (pc := 11) d_Lm_gain_11 rfl rfl ?_
    refine gf_Lm_20 (pc := 12) rfl d_Lm_gain_12 ?_
    refine wh_iload_n (pc := 15) d_Lm_gain_15 rfl rfl ?_
    refine cv_Lm_101_d (pc := 16) (Or.inl rfl) rfl d_Lm_gain_16 ⟨⟨by decide, by decide⟩, rfl, rfl⟩ (s_hasWindow (Or.inl rfl) (wf_w hF) hw5) (Nat.le_of_ble_eq_true rfl) ?_
    refine wh_if_ne (pc := 19) (tgt := 24) d_Lm_gain_19 (by decide) (fun c_19 => ?_) (fun c_19 => absurd c_19 (bI_k hb (by omega)))
    refine wh_aload_n (pc := 24) d_Lm_gain_24 rfl rfl ?_
    refine gf_Lm_24 (pc := 25) rfl d_Lm_gain_25 ?_
    refine wh_aload_n (pc := 28) d_Lm_gain_28 rfl rfl ?_
    refine gf_Lm_20 (pc := 29) rfl d_Lm_gain_29 ?_
    refine cv_Lm_72_d (pc := 32) (Or.inr rfl) rfl d_Lm_gain_32 ⟨⟨by decide, by decide⟩, rfl, rfl⟩ (s_copy (Or.inr rfl) (Or.inl rfl) (by decide)) (Nat.le_of_ble_eq_true rfl) ?_
    refine wh_iload_n (pc := 35) d_Lm_gain_35 rfl rfl ?_
    refine wh_if_ne (pc := 36) (tgt := 49) d_Lm_gain_36 (by decide) (fun c_36 => ?_) (fun c_36 => absurd c_36 (by decide))
    refine wh_iload (pc := 49) d_Lm_gain_49 rfl ?_
    refine wh_if_ne (pc := 51) (tgt := 64) d_Lm_gain_51 (by decide) (fun c_51 => ?_) (fun c_51 => absurd c_51 (by decide))
    refine wh_iload_n (pc := 64) d_Lm_gain_64 rfl rfl ?_
    refine wh_iconst (pc := 65) (v := 1) d_Lm_gain_65 (by decide) ?_
    refine wh_icmp_ne (pc := 66) (tgt := 80) d_Lm_gain_66 (by decide) (fun c_66 => absurd rfl c_66) (fun c_66 => ?_)
    refine wh_iconst (pc := 69) (v := 5) d_Lm_gain_69 (by decide) ?_
    refine wh_aload_n (pc := 70) d_Lm_gain_70 rfl rfl ?_
    refine gf_Lm_24 (pc := 71) rfl d_Lm_gain_71 ?_
    refine wh_iload_n (pc := 74) d_Lm_gain_74 rfl rfl ?_
    refine cv_Lm_114_d (pc := 75) (Or.inr rfl) rfl d_Lm_gain_75 ⟨⟨by decide, by decide⟩, rfl, rfl⟩ (s_owedBy (Or.inr rfl) eL hTF hTa) (Nat.le_of_ble_eq_true rfl) ?_
    refine wh_isub (pc := 78) d_Lm_gain_78 ?_
    refine wh_iret (pc := 79) d_Lm_gain_79 rfl ?_
    refine ⟨_, rfl, fc_cp.tr (fc_fill (by unfold scC; omega)), ?_⟩
    first | rfl | (show _ = if readF (offS (laneS h 2) a b 1 1) a then (3 : Int32) else 0; rw [t01] at c_88; first | (rw [c_88]; rfl) | (rw [show readF (offS (laneS h 2) a b 1 1) a = true by simpa using c_88]; rfl))
  rcases (show x = 0 ∨ x = 1 by omega) with rfl | rfl
  · rcases (show y = 0 ∨ y = 1 by omega) with rfl | rfl
    · exact g00
    · exact g01
  · rcases (show y = 0 ∨ y = 1 by omega) with rfl | rfl
    · exact g10
    · exact g11
theorem c_rests {l : Launch} {D : va_G} {base : Nat} {h : Hp} (hr : Rel h) (w o t : Int32) : SI l D base M_Lm_rests [.ref 0, .int w, .int o, .int t] h (fun g x => FC h g ∧ x = resF (laneS h 2) w o t) := by
  refine SP.of [some (.ref 0), some (.int w), some (.int o), some (.int t), none, none, none, none, none, none, none] (by decide) rfl (Nat.le_of_ble_eq_true rfl) ?_
  obtain ⟨hSt, hF⟩ := hr.street
  have hw5 := hF.1.1
  have hm6 := hF.2.1.1
  rcases bI_two (w := w) (n := nW (laneS h 2)) (by omega) with hz | ⟨a, ha, rfl⟩
  · refine wh_aload_n (pc := 0) d_Lm_rests_0 rfl rfl ?_
    refine gf_Lm_20 (pc := 1) rfl d_Lm_rests_1 ?_
    refine wh_iload_n (pc := 4) d_Lm_rests_4 rfl rfl ?_
    refine cv_Lm_101_d (pc := 5) (Or.inl rfl) rfl d_Lm_rests_5 ⟨⟨by decide, by decide⟩, rfl, rfl⟩ (s_hasWindow (Or.inl rfl) (wf_w hF) hw5) (Nat.le_of_ble_eq_true rfl) ?_
    refine wh_if_eq (pc := 8) (tgt := 22) d_Lm_rests_8 (by decide) (fun c_8 => ?_) (fun c_8 => absurd hz c_8)
    refine wh_iconst (pc := 22) (v := (-1)) d_Lm_rests_22 (by decide) ?_
    refine wh_iret (pc := 23) d_Lm_rests_23 rfl ?_
    exact ⟨_, rfl, FC.rf h, by unfold resF; rw [if_pos hz]⟩
  have hz := bI_k ha (show nW (laneS h 2) < 2 ^ 31 by omega)
  rcases bI_two (w := o) (n := nW (laneS h 2)) (by omega) with hy | ⟨b, hb, rfl⟩
  · refine wh_aload_n (pc := 0) d_Lm_rests_0 rfl rfl ?_
    refine gf_Lm_20 (pc := 1) rfl d_Lm_rests_1 ?_
    refine wh_iload_n (pc := 4) d_Lm_rests_4 rfl rfl ?_
    refine cv_Lm_101_d (pc := 5) (Or.inl rfl) rfl d_Lm_rests_5 ⟨⟨by decide, by decide⟩, rfl, rfl⟩ (s_hasWindow (Or.inl rfl) (wf_w hF) hw5) (Nat.le_of_ble_eq_true rfl) ?_
    refine wh_if_eq (pc := 8) (tgt := 22) d_Lm_rests_8 (by decide) (fun c_8 => absurd c_8 hz) (fun c_8 => ?_)
    refine wh_aload_n (pc := 11) d_Lm_rests_11 rfl rfl ?_
    refine gf_Lm_20 (pc := 12) rfl d_Lm_rests_12 ?_
    refine wh_iload_n (pc := 15) d_Lm_rests_15 rfl rfl ?_
    refine cv_Lm_101_d (pc := 16) (Or.inl rfl) rfl d_Lm_rests_16 ⟨⟨by decide, by decide⟩, rfl, rfl⟩ (s_hasWindow (Or.inl rfl) (wf_w hF) hw5) (Nat.le_of_ble_eq_true rfl) ?_
    refine wh_if_ne (pc := 19) (tgt := 24) d_Lm_rests_19 (by decide) (fun c_19 => absurd hy c_19) (fun c_19 => ?_)
    refine wh_iconst (pc := 22) (v := (-1)) d_Lm_rests_22 (by decide) ?_
    refine wh_iret (pc := 23) d_Lm_rests_23 rfl ?_
    exact ⟨_, rfl, FC.rf h, by unfold resF; rw [if_neg hz, if_pos hy]⟩
  have hy := bI_k hb (show nW (laneS h 2) < 2 ^ 31 by omega)
  by_cases he : nI a = nI b
  · refine wh_aload_n (pc := 0) d_Lm_rests_0 rfl rfl ?_
    refine gf_Lm_20 (pc := 1) rfl d_Lm_rests_1 ?_
    refine wh_iload_n (pc := 4) d_Lm_rests_4 rfl rfl ?_
    refine cv_Lm_101_d (pc := 5) (Or.inl rfl) rfl d_Lm_rests_5 ⟨⟨by decide, by decide⟩, rfl, rfl⟩ (s_hasWindow (Or.inl rfl) (wf_w hF) hw5) (Nat.le_of_ble_eq_true rfl) ?_
    refine wh_if_eq (pc := 8) (tgt := 22) d_Lm_rests_8 (by decide) (fun c_8 => absurd c_8 hz) (fun c_8 => ?_)
    refine wh_aload_n (pc := 11) d_Lm_rests_11 rfl rfl ?_
    refine gf_Lm_20 (pc := 12) rfl d_Lm_rests_12 ?_
    refine wh_iload_n (pc := 15) d_Lm_rests_15 rfl rfl ?_
    refine cv_Lm_101_d (pc := 16) (Or.inl rfl) rfl d_Lm_rests_16 ⟨⟨by decide, by decide⟩, rfl, rfl⟩ (s_hasWindow (Or.inl rfl) (wf_w hF) hw5) (Nat.le_of_ble_eq_true rfl) ?_
    refine wh_if_ne (pc := 19) (tgt := 24) d_Lm_rests_19 (by decide) (fun c_19 => ?_) (fun c_19 => absurd c_19 hy)
    refine wh_iload_n (pc := 24) d_Lm_rests_24 rfl rfl ?_
    refine wh_iload_n (pc := 25) d_Lm_rests_25 rfl rfl ?_
    refine wh_icmp_eq (pc := 26) (tgt := 38) d_Lm_rests_26 (by decide) (fun c_26 => ?_) (fun c_26 => absurd he c_26)
    refine wh_bipush (pc := 38) (v := (-2)) d_Lm_rests_38 (by decide) ?_
    refine wh_iret (pc := 40) d_Lm_rests_40 rfl ?_
    exact ⟨_, rfl, FC.rf h, by unfold resF; rw [if_neg hz, if_neg hy, if_pos he]⟩
  by_cases ht : t < 0 ∨ 1 < t
  · have hm : resF (laneS h 2) (nI a) (nI b) t = -2 := by unfold resF; rw [if_neg hz, if_neg hy, if_neg he, if_pos ht]
    refine wh_aload_n (pc := 0) d_Lm_rests_0 rfl rfl ?_
    refine gf_Lm_20 (pc := 1) rfl d_Lm_rests_1 ?_
    refine wh_iload_n (pc := 4) d_Lm_rests_4 rfl rfl ?_
    refine cv_Lm_101_d (pc := 5) (Or.inl rfl) rfl d_Lm_rests_5 ⟨⟨by decide, by decide⟩, rfl, rfl⟩ (s_hasWindow (Or.inl rfl) (wf_w hF) hw5) (Nat.le_of_ble_eq_true rfl) ?_
    refine wh_if_eq (pc := 8) (tgt := 22) d_Lm_rests_8 (by decide) (fun c_8 => absurd c_8 hz) (fun c_8 => ?_)
    refine wh_aload_n (pc := 11) d_Lm_rests_11 rfl rfl ?_
    refine gf_Lm_20 (pc := 12) rfl d_Lm_rests_12 ?_
    refine wh_iload_n (pc := 15) d_Lm_rests_15 rfl rfl ?_
    refine cv_Lm_101_d (pc := 16) (Or.inl rfl) rfl d_Lm_rests_16 ⟨⟨by decide, by decide⟩, rfl, rfl⟩ (s_hasWindow (Or.inl rfl) (wf_w hF) hw5) (Nat.le_of_ble_eq_true rfl) ?_
    refine wh_if_ne (pc := 19) (tgt := 24) d_Lm_rests_19 (by decide) (fun c_19 => ?_) (fun c_19 => absurd c_19 hy)
    refine wh_iload_n (pc := 24) d_Lm_rests_24 rfl rfl ?_
    refine wh_iload_n (pc := 25) d_Lm_rests_25 rfl rfl ?_
    refine wh_icmp_eq (pc := 26) (tgt := 38) d_Lm_rests_26 (by decide) (fun c_26 => absurd c_26 he) (fun c_26 => ?_)
    refine wh_iload_n (pc := 29) d_Lm_rests_29 rfl rfl ?_
    refine wh_if_lt (pc := 30) (tgt := 38) d_Lm_rests_30 (by decide) (fun c_30 => ?_) (fun c_30 => ?_)
    · refine wh_bipush (pc := 38) (v := (-2)) d_Lm_rests_38 (by decide) ?_
      refine wh_iret (pc := 40) d_Lm_rests_40 rfl ?_
      exact ⟨_, rfl, FC.rf h, hm.symm⟩
    · refine wh_iload_n (pc := 33) d_Lm_rests_33 rfl rfl ?_
      refine wh_iconst (pc := 34) (v := 1) d_Lm_rests_34 (by decide) ?_
      refine wh_icmp_le (pc := 35) (tgt := 41) d_Lm_rests_35 (by decide) (fun c_35 => ?_) (fun c_35 => ?_)
      · rw [i_lt, i_lt] at ht
        rw [i_lt] at c_30
        rw [i_le] at c_35
        omega
      · refine wh_bipush (pc := 38) (v := (-2)) d_Lm_rests_38 (by decide) ?_
        refine wh_iret (pc := 40) d_Lm_rests_40 rfl ?_
        exact ⟨_, rfl, FC.rf h, hm.symm⟩
  have hca := cl_nI (show a < 2 ^ 31 by omega)
  have hcb := cl_nI (show b < 2 ^ 31 by omega)
  refine wh_aload_n (pc := 0) d_Lm_rests_0 rfl rfl ?_
  refine gf_Lm_20 (pc := 1) rfl d_Lm_rests_1 ?_
  refine wh_iload_n (pc := 4) d_Lm_rests_4 rfl rfl ?_
  refine cv_Lm_101_d (pc := 5) (Or.inl rfl) rfl d_Lm_rests_5 ⟨⟨by decide, by decide⟩, rfl, rfl⟩ (s_hasWindow (Or.inl rfl) (wf_w hF) hw5) (Nat.le_of_ble_eq_true rfl) ?_
  refine wh_if_eq (pc := 8) (tgt := 22) d_Lm_rests_8 (by decide) (fun c_8 => absurd c_8 hz) (fun c_8 => ?_)
  refine wh_aload_n (pc := 11) d_Lm_rests_11 rfl rfl ?_
  refine gf_Lm_20 (pc := 12) rfl d_Lm_rests_12 ?_
  refine wh_iload_n (pc := 15) d_Lm_rests_15 rfl rfl ?_
  refine cv_Lm_101_d (pc := 16) (Or.inl rfl) rfl d_Lm_rests_16 ⟨⟨by decide, by decide⟩, rfl, rfl⟩ (s_hasWindow (Or.inl rfl) (wf_w hF) hw5) (Nat.le_of_ble_eq_true rfl) ?_
  refine wh_if_ne (pc := 19) (tgt := 24) d_Lm_rests_19 (by decide) (fun c_19 => ?_) (fun c_19 => absurd c_19 hy)
  refine wh_iload_n (pc := 24) d_Lm_rests_24 rfl rfl ?_
  refine wh_iload_n (pc := 25) d_Lm_rests_25 rfl rfl ?_
  refine wh_icmp_eq (pc := 26) (tgt := 38) d_Lm_rests_26 (by decide) (fun c_26 => absurd c_26 he) (fun c_26 => ?_)
  refine wh_iload_n (pc := 29) d_Lm_rests_29 rfl rfl ?_
  refine wh_if_lt (pc := 30) (tgt := 38) d_Lm_rests_30 (by decide) (fun c_30 => absurd c_30 (fun z => ht (Or.inl z))) (fun c_30 => ?_)
  refine wh_iload_n (pc := 33) d_Lm_rests_33 rfl rfl ?_
  refine wh_iconst (pc := 34) (v := 1) d_Lm_rests_34 (by decide) ?_
  refine wh_icmp_le (pc := 35) (tgt := 41) d_Lm_rests_35 (by decide) (fun c_35 => ?_) (fun c_35 => absurd (by rw [i_le]; rw [i_lt, i_lt] at ht; omega) c_35)
  refine wh_iconst (pc := 41) (v := 0) d_Lm_rests_41 (by decide) ?_
  refine wh_istore (pc := 42) (ls2 := [_, _, _, _, _, _, _, _, _, _, _]) d_Lm_rests_42 (by decide) rfl rfl ?_
  refine wh_bipush (pc := 44) (v := (-9)) d_Lm_rests_44 (by decide) ?_
  refine wh_istore (pc := 46) (ls2 := [_, _, _, _, _, _, _, _, _, _, _]) d_Lm_rests_46 (by decide) rfl rfl ?_
  refine wh_iconst (pc := 48) (v := 0) d_Lm_rests_48 (by decide) ?_
  refine wh_istore (pc := 49) (ls2 := [_, _, _, _, _, _, _, _, _, _, _]) d_Lm_rests_49 (by decide) rfl rfl ?_
  refine wh_loopR 4 (fun i => [some (.ref 0), some (.int (nI a)), some (.int (nI b)), some (.int t), some (.int (rsN (laneS h 2) a b i).1), some (.int (rsN (laneS h 2) a b i).2), some (.int (nI i)), none, none, none, none]) (fun i g => FC h g) ?_ ?_ 0 h (Nat.zero_le _) (FC.rf h)
  · intro g hI
    refine wh_iload (pc := 51) d_Lm_rests_51 rfl ?_
    refine wh_iconst (pc := 53) (v := 4) d_Lm_rests_53 (by decide) ?_
    refine wh_icmp_ge (pc := 54) (tgt := 169) d_Lm_rests_54 (by decide) (fun c_54 => ?_) (fun c_54 => absurd (by decide) c_54)
    refine wh_iload_n (pc := 169) d_Lm_rests_169 rfl rfl ?_
    refine wh_if_ne (pc := 170) (tgt := 178) d_Lm_rests_170 (by decide) (fun c_170 => ?_) (fun c_170 => ?_)
    · refine wh_iload (pc := 178) d_Lm_rests_178 rfl ?_
      refine wh_iret (pc := 180) d_Lm_rests_180 rfl ?_
      refine ⟨_, rfl, hI, ?_⟩
      unfold resF
      rw [if_neg hz, if_neg hy, if_neg he, if_neg ht, hca, hcb]
      first | (rw [if_pos c_170]; done) | (rw [if_neg c_170]; done)
    · refine wh_iload (pc := 173) d_Lm_rests_173 rfl ?_
      refine wh_goto (pc := 175) (tgt := 180) d_Lm_rests_175 (by decide) ?_
      refine wh_iret (pc := 180) d_Lm_rests_180 rfl ?_
      refine ⟨_, rfl, hI, ?_⟩
      unfold resF
      rw [if_neg hz, if_neg hy, if_neg he, if_neg ht, hca, hcb]
      first | (rw [if_pos c_170]; done) | (rw [if_neg c_170]; done)
  · intro i g hi hI ih
    have k0 : laneS g 2 = (laneS h 2) := fc_lane hI
    obtain ⟨q1, q2, q3, q4⟩ := d2 hi
    refine wh_iload (pc := 51) d_Lm_rests_51 rfl ?_
    refine wh_iconst (pc := 53) (v := 4) d_Lm_rests_53 (by decide) ?_
    refine wh_icmp_ge (pc := 54) (tgt := 169) d_Lm_rests_54 (by decide) (fun c_54 => absurd c_54 (nI_ge hi (by decide))) (fun c_54 => ?_)
    refine wh_iload (pc := 57) d_Lm_rests_57 rfl ?_
    refine wh_iconst (pc := 59) (v := 2) d_Lm_rests_59 (by decide) ?_
    refine wh_idiv (pc := 60) d_Lm_rests_60 (by decide) ?_
    rw [q1]
    refine wh_istore (pc := 61) (ls2 := [_, _, _, _, _, _, _, _, _, _, _]) d_Lm_rests_61 (by decide) rfl rfl ?_
    refine wh_iload (pc := 63) d_Lm_rests_63 rfl ?_
    refine wh_iconst (pc := 65) (v := 2) d_Lm_rests_65 (by decide) ?_
    refine wh_irem (pc := 66) d_Lm_rests_66 (by decide) ?_
    rw [q2]
    refine wh_istore (pc := 67) (ls2 := [_, _, _, _, _, _, _, _, _, _, _]) d_Lm_rests_67 (by decide) rfl rfl ?_
    refine wh_aload_n (pc := 69) d_Lm_rests_69 rfl rfl ?_
    refine wh_iload_n (pc := 70) d_Lm_rests_70 rfl rfl ?_
    refine wh_iload_n (pc := 71) d_Lm_rests_71 rfl rfl ?_
    refine wh_iload (pc := 72) d_Lm_rests_72 rfl ?_
    refine wh_iload (pc := 74) d_Lm_rests_74 rfl ?_
    refine cv_Lm_214_i (pc := 76) rfl d_Lm_rests_76 ⟨⟨by decide, by decide⟩, rfl, rfl⟩ (c_gain (by rw [k0]; exact hF) (by rw [k0]; exact ha) (by rw [k0]; exact hb) (by omega) (by omega)) (Nat.le_of_ble_eq_true rfl) (fun h_76 x_76 e_76 => ?_)
    have k76 : laneS h_76 2 = (laneS h 2) := (fc_lane e_76.1).trans k0
    refine wh_aload_n (pc := 79) d_Lm_rests_79 rfl rfl ?_
    refine wh_iload_n (pc := 80) d_Lm_rests_80 rfl rfl ?_
    refine wh_iload_n (pc := 81) d_Lm_rests_81 rfl rfl ?_
    refine wh_iconst (pc := 82) (v := 1) d_Lm_rests_82 (by decide) ?_
    refine wh_iload (pc := 83) d_Lm_rests_83 rfl ?_
    refine wh_isub (pc := 85) d_Lm_rests_85 ?_
    refine wh_iload (pc := 86) d_Lm_rests_86 rfl ?_
    rw [q3]
    refine cv_Lm_214_i (pc := 88) rfl d_Lm_rests_88 ⟨⟨by decide, by decide⟩, rfl, rfl⟩ (c_gain (by rw [k76]; exact hF) (by rw [k76]; exact ha) (by rw [k76]; exact hb) (by omega) (by omega)) (Nat.le_of_ble_eq_true rfl) (fun h_88 x_88 e_88 => ?_)
    have k88 : laneS h_88 2 = (laneS h 2) := (fc_lane e_88.1).trans k76
    rw [e_88.2, k76, e_76.2, k0]
    refine wh_icmp_lt (pc := 91) (tgt := 98) d_Lm_rests_91 (by decide) (fun c_91 => ?_) (fun c_91 => ?_)
    · refine wh_iconst (pc := 98) (v := 0) d_Lm_rests_98 (by decide) ?_
      refine wh_istore (pc := 99) (ls2 := [_, _, _, _, _, _, _, _, _, _, _]) d_Lm_rests_99 (by decide) rfl rfl ?_
      refine wh_aload_n (pc := 101) d_Lm_rests_101 rfl rfl ?_
      refine wh_iload_n (pc := 102) d_Lm_rests_102 rfl rfl ?_
      refine wh_iload_n (pc := 103) d_Lm_rests_103 rfl rfl ?_
      refine wh_iload (pc := 104) d_Lm_rests_104 rfl ?_
      refine wh_iload (pc := 106) d_Lm_rests_106 rfl ?_
      refine cv_Lm_214_i (pc := 108) rfl d_Lm_rests_108 ⟨⟨by decide, by decide⟩, rfl, rfl⟩ (c_gain (by rw [k88]; exact hF) (by rw [k88]; exact hb) (by rw [k88]; exact ha) (by omega) (by omega)) (Nat.le_of_ble_eq_true rfl) (fun h_108 x_108 e_108 => ?_)
      have k108 : laneS h_108 2 = (laneS h 2) := (fc_lane e_108.1).trans k88
      refine wh_aload_n (pc := 111) d_Lm_rests_111 rfl rfl ?_
      refine wh_iload_n (pc := 112) d_Lm_rests_112 rfl rfl ?_
      refine wh_iload_n (pc := 113) d_Lm_rests_113 rfl rfl ?_
      refine wh_iconst (pc := 114) (v := 1) d_Lm_rests_114 (by decide) ?_
      refine wh_iload (pc := 115) d_Lm_rests_115 rfl ?_
      refine wh_isub (pc := 117) d_Lm_rests_117 ?_
      refine wh_iload (pc := 118) d_Lm_rests_118 rfl ?_
      rw [q4]
      refine cv_Lm_214_i (pc := 120) rfl d_Lm_rests_120 ⟨⟨by decide, by decide⟩, rfl, rfl⟩ (c_gain (by rw [k108]; exact hF) (by rw [k108]; exact hb) (by rw [k108]; exact ha) (by omega) (by omega)) (Nat.le_of_ble_eq_true rfl) (fun h_120 x_120 e_120 => ?_)
      have k120 : laneS h_120 2 = (laneS h 2) := (fc_lane e_120.1).trans k108
      rw [e_120.2, k108, e_108.2, k88]
      refine wh_icmp_lt (pc := 123) (tgt := 130) d_Lm_rests_123 (by decide) (fun c_123 => ?_) (fun c_123 => ?_)
      · refine wh_iconst (pc := 130) (v := 0) d_Lm_rests_130 (by decide) ?_
        refine wh_istore (pc := 131) (ls2 := [_, _, _, _, _, _, _, _, _, _, _]) d_Lm_rests_131 (by decide) rfl rfl ?_
        refine wh_iload (pc := 133) d_Lm_rests_133 rfl ?_
        refine wh_if_eq (pc := 135) (tgt := 163) d_Lm_rests_135 (by decide) (fun c_135 => ?_) (fun c_135 => absurd (by decide) c_135)
        refine wh_iinc (pc := 163) (ls2 := [_, _, _, _, _, _, _, _, _, _, _]) d_Lm_rests_163 rfl (by first | exact nI_inc _ | rfl) (by decide) rfl rfl ?_
        refine wh_goto (pc := 166) (tgt := 51) d_Lm_rests_166 (by decide) ?_
        refine wh_drop (i := 7) (ls2 := [_, _, _, _, _, _, _, _, _, _, _]) rfl ?_
        refine wh_drop (i := 8) (ls2 := [_, _, _, _, _, _, _, _, _, _, _]) rfl ?_
        refine wh_drop (i := 9) (ls2 := [_, _, _, _, _, _, _, _, _, _, _]) rfl ?_
        refine wh_drop (i := 10) (ls2 := [_, _, _, _, _, _, _, _, _, _, _]) rfl ?_
        refine wh_eq (ih _ ((((hI.tr e_76.1).tr e_88.1).tr e_108.1).tr e_120.1)) ?_ rfl rfl
        first
          | (rw [rs_n (st_n1 (nle_lt.mpr c_91))]; done)
          | (rw [rs_n (st_n2 (nle_lt.mpr c_123))]; done)
          | (rw [rs_y (st_y (nlt_le.mp c_91) (nlt_le.mp c_123)), if_pos c_150]; rfl)
          | (rw [rs_y (st_y (nlt_le.mp c_91) (nlt_le.mp c_123)), if_neg c_150]; rfl)
      · refine wh_iconst (pc := 126) (v := 1) d_Lm_rests_126 (by decide) ?_
        refine wh_goto (pc := 127) (tgt := 131) d_Lm_rests_127 (by decide) ?_
        refine wh_istore (pc := 131) (ls2 := [_, _, _, _, _, _, _, _, _, _, _]) d_Lm_rests_131 (by decide) rfl rfl ?_
        refine wh_iload (pc := 133) d_Lm_rests_133 rfl ?_
        refine wh_if_eq (pc := 135) (tgt := 163) d_Lm_rests_135 (by decide) (fun c_135 => ?_) (fun c_135 => absurd (by decide) c_135)
        refine wh_iinc (pc := 163) (ls2 := [_, _, _, _, _, _, _, _, _, _, _]) d_Lm_rests_163 rfl (by first | exact nI_inc _ | rfl) (by decide) rfl rfl ?_
        refine wh_goto (pc := 166) (tgt := 51) d_Lm_rests_166 (by decide) ?_
        refine wh_drop (i := 7) (ls2 := [_, _, _, _, _, _, _, _, _, _, _]) rfl ?_
        refine wh_drop (i := 8) (ls2 := [_, _, _, _, _, _, _, _, _, _, _]) rfl ?_
        refine wh_drop (i := 9) (ls2 := [_, _, _, _, _, _, _, _, _, _, _]) rfl ?_
        refine wh_drop (i := 10) (ls2 := [_, _, _, _, _, _, _, _, _, _, _]) rfl ?_
        refine wh_eq (ih _ ((((hI.tr e_76.1).tr e_88.1).tr e_108.1).tr e_120.1)) ?_ rfl rfl
        first
          | (rw [rs_n (st_n1 (nle_lt.mpr c_91))]; done)
          | (rw [rs_n (st_n2 (nle_lt.mpr c_123))]; done)
          | (rw [rs_y (st_y (nlt_le.mp c_91) (nlt_le.mp c_123)), if_pos c_150]; rfl)
          | (rw [rs_y (st_y (nlt_le.mp c_91) (nlt_le.mp c_123)), if_neg c_150]; rfl)
    · refine wh_iconst (pc := 94) (v := 1) d_Lm_rests_94 (by decide) ?_
      refine wh_goto (pc := 95) (tgt := 99) d_Lm_rests_95 (by decide) ?_
      refine wh_istore (pc := 99) (ls2 := [_, _, _, _, _, _, _, _, _, _, _]) d_Lm_rests_99 (by decide) rfl rfl ?_
      refine wh_aload_n (pc := 101) d_Lm_rests_101 rfl rfl ?_
      refine wh_iload_n (pc := 102) d_Lm_rests_102 rfl rfl ?_
      refine wh_iload_n (pc := 103) d_Lm_rests_103 rfl rfl ?_
      refine wh_iload (pc := 104) d_Lm_rests_104 rfl ?_
      refine wh_iload (pc := 106) d_Lm_rests_106 rfl ?_
      refine cv_Lm_214_i (pc := 108) rfl d_Lm_rests_108 ⟨⟨by decide, by decide⟩, rfl, rfl⟩ (c_gain (by rw [k88]; exact hF) (by rw [k88]; exact hb) (by rw [k88]; exact ha) (by omega) (by omega)) (Nat.le_of_ble_eq_true rfl) (fun h_108 x_108 e_108 => ?_)
      have k108 : laneS h_108 2 = (laneS h 2) := (fc_lane e_108.1).trans k88
      refine wh_aload_n (pc := 111) d_Lm_rests_111 rfl rfl ?_
      refine wh_iload_n (pc := 112) d_Lm_rests_112 rfl rfl ?_
      refine wh_iload_n (pc := 113) d_Lm_rests_113 rfl rfl ?_
      refine wh_iconst (pc := 114) (v := 1) d_Lm_rests_114 (by decide) ?_
      refine wh_iload (pc := 115) d_Lm_rests_115 rfl ?_
      refine wh_isub (pc := 117) d_Lm_rests_117 ?_
      refine wh_iload (pc := 118) d_Lm_rests_118 rfl ?_
      rw [q4]
      refine cv_Lm_214_i (pc := 120) rfl d_Lm_rests_120 ⟨⟨by decide, by decide⟩, rfl, rfl⟩ (c_gain (by rw [k108]; exact hF) (by rw [k108]; exact hb) (by rw [k108]; exact ha) (by omega) (by omega)) (Nat.le_of_ble_eq_true rfl) (fun h_120 x_120 e_120 => ?_)
      have k120 : laneS h_120 2 = (laneS h 2) := (fc_lane e_120.1).trans k108
      rw [e_120.2, k108, e_108.2, k88]
      refine wh_icmp_lt (pc := 123) (tgt := 130) d_Lm_rests_123 (by decide) (fun c_123 => ?_) (fun c_123 => ?_)
      · refine wh_iconst (pc := 130) (v := 0) d_Lm_rests_130 (by decide) ?_
        refine wh_istore (pc := 131) (ls2 := [_, _, _, _, _, _, _, _, _, _, _]) d_Lm_rests_131 (by decide) rfl rfl ?_
        refine wh_iload (pc := 133) d_Lm_rests_133 rfl ?_
        refine wh_if_eq (pc := 135) (tgt := 163) d_Lm_rests_135 (by decide) (fun c_135 => absurd c_135 (by decide)) (fun c_135 => ?_)
        refine wh_iload (pc := 138) d_Lm_rests_138 rfl ?_
        refine wh_if_eq (pc := 140) (tgt := 163) d_Lm_rests_140 (by decide) (fun c_140 => ?_) (fun c_140 => absurd (by decide) c_140)
        refine wh_iinc (pc := 163) (ls2 := [_, _, _, _, _, _, _, _, _, _, _]) d_Lm_rests_163 rfl (by first | exact nI_inc _ | rfl) (by decide) rfl rfl ?_
        refine wh_goto (pc := 166) (tgt := 51) d_Lm_rests_166 (by decide) ?_
        refine wh_drop (i := 7) (ls2 := [_, _, _, _, _, _, _, _, _, _, _]) rfl ?_
        refine wh_drop (i := 8) (ls2 := [_, _, _, _, _, _, _, _, _, _, _]) rfl ?_
        refine wh_drop (i := 9) (ls2 := [_, _, _, _, _, _, _, _, _, _, _]) rfl ?_
        refine wh_drop (i := 10) (ls2 := [_, _, _, _, _, _, _, _, _, _, _]) rfl ?_
        refine wh_eq (ih _ ((((hI.tr e_76.1).tr e_88.1).tr e_108.1).tr e_120.1)) ?_ rfl rfl
        first
          | (rw [rs_n (st_n1 (nle_lt.mpr c_91))]; done)
          | (rw [rs_n (st_n2 (nle_lt.mpr c_123))]; done)
          | (rw [rs_y (st_y (nlt_le.mp c_91) (nlt_le.mp c_123)), if_pos c_150]; rfl)
          | (rw [rs_y (st_y (nlt_le.mp c_91) (nlt_le.mp c_123)), if_neg c_150]; rfl)
      · refine wh_iconst (pc := 126) (v := 1) d_Lm_rests_126 (by decide) ?_
        refine wh_goto (pc := 127) (tgt := 131) d_Lm_rests_127 (by decide) ?_
        refine wh_istore (pc := 131) (ls2 := [_, _, _, _, _, _, _, _, _, _, _]) d_Lm_rests_131 (by decide) rfl rfl ?_
        refine wh_iload (pc := 133) d_Lm_rests_133 rfl ?_
        refine wh_if_eq (pc := 135) (tgt := 163) d_Lm_rests_135 (by decide) (fun c_135 => absurd c_135 (by decide)) (fun c_135 => ?_)
        refine wh_iload (pc := 138) d_Lm_rests_138 rfl ?_
        refine wh_if_eq (pc := 140) (tgt := 163) d_Lm_rests_140 (by decide) (fun c_140 => absurd c_140 (by decide)) (fun c_140 => ?_)
        refine wh_iinc (pc := 143) (ls2 := [_, _, _, _, _, _, _, _, _, _, _]) d_Lm_rests_143 rfl (by first | exact nI_inc _ | rfl) (by decide) rfl rfl ?_
        refine wh_iload (pc := 146) d_Lm_rests_146 rfl ?_
        refine wh_bipush (pc := 148) (v := (-9)) d_Lm_rests_148 (by decide) ?_
        refine wh_icmp_ne (pc := 150) (tgt := 163) d_Lm_rests_150 (by decide) (fun c_150 => ?_) (fun c_150 => ?_)
        · refine wh_iinc (pc := 163) (ls2 := [_, _, _, _, _, _, _, _, _, _, _]) d_Lm_rests_163 rfl (by first | exact nI_inc _ | rfl) (by decide) rfl rfl ?_
          refine wh_goto (pc := 166) (tgt := 51) d_Lm_rests_166 (by decide) ?_
          refine wh_drop (i := 7) (ls2 := [_, _, _, _, _, _, _, _, _, _, _]) rfl ?_
          refine wh_drop (i := 8) (ls2 := [_, _, _, _, _, _, _, _, _, _, _]) rfl ?_
          refine wh_drop (i := 9) (ls2 := [_, _, _, _, _, _, _, _, _, _, _]) rfl ?_
          refine wh_drop (i := 10) (ls2 := [_, _, _, _, _, _, _, _, _, _, _]) rfl ?_
          refine wh_eq (ih _ ((((hI.tr e_76.1).tr e_88.1).tr e_108.1).tr e_120.1)) ?_ rfl rfl
          first
            | (rw [rs_n (st_n1 (nle_lt.mpr c_91))]; done)
            | (rw [rs_n (st_n2 (nle_lt.mpr c_123))]; done)
            | (rw [rs_y (st_y (nlt_le.mp c_91) (nlt_le.mp c_123)), if_pos c_150]; rfl)
            | (rw [rs_y (st_y (nlt_le.mp c_91) (nlt_le.mp c_123)), if_neg c_150]; rfl)
        · refine wh_bipush (pc := 153) (v := 10) d_Lm_rests_153 (by decide) ?_
          refine wh_iload (pc := 155) d_Lm_rests_155 rfl ?_
          refine wh_imul (pc := 157) d_Lm_rests_157 ?_
          refine wh_iload (pc := 158) d_Lm_rests_158 rfl ?_
          refine wh_iadd (pc := 160) d_Lm_rests_160 ?_
          refine wh_istore (pc := 161) (ls2 := [_, _, _, _, _, _, _, _, _, _, _]) d_Lm_rests_161 (by decide) rfl rfl ?_
          refine wh_iinc (pc := 163) (ls2 := [_, _, _, _, _, _, _, _, _, _, _]) d_Lm_rests_163 rfl (by first | exact nI_inc _ | rfl) (by decide) rfl rfl ?_
          refine wh_goto (pc := 166) (tgt := 51) d_Lm_rests_166 (by decide) ?_
          refine wh_drop (i := 7) (ls2 := [_, _, _, _, _, _, _, _, _, _, _]) rfl ?_
          refine wh_drop (i := 8) (ls2 := [_, _, _, _, _, _, _, _, _, _, _]) rfl ?_
          refine wh_drop (i := 9) (ls2 := [_, _, _, _, _, _, _, _, _, _, _]) rfl ?_
          refine wh_drop (i := 10) (ls2 := [_, _, _, _, _, _, _, _, _, _, _]) rfl ?_
          refine wh_eq (ih _ ((((hI.tr e_76.1).tr e_88.1).tr e_108.1).tr e_120.1)) ?_ rfl rfl
          first
            | (rw [rs_n (st_n1 (nle_lt.mpr c_91))]; done)
            | (rw [rs_n (st_n2 (nle_lt.mpr c_123))]; done)
            | (rw [rs_y (st_y (nlt_le.mp c_91) (nlt_le.mp c_123)), if_pos c_150]; rfl)
            | (rw [rs_y (st_y (nlt_le.mp c_91) (nlt_le.mp c_123)), if_neg c_150]; rfl)

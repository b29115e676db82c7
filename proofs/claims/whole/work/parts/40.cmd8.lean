def owB (S : St) (k : Nat) (x t : Int32) : Bool := !decide (x < 0) && (!decide (9 < x) && decide (owedF (setS S 1 k x) k ≤ t))
def dimR (S : St) (k : Nat) (t : Int32) : Nat → Int32
  | 0 => -9
  | r + 1 => if owB S k (S 1 k - nI (9 - r)) t then nI (9 - r) else if owB S k (S 1 k + nI (9 - r)) t then 10 + nI (9 - r) else dimR S k t r
def dimF (S : St) (w t : Int32) : Int32 := if bI w (nW S) = 0 then -1 else if t < 0 ∨ 99 < t then -2 else dimR S w.toNatClampNeg t 10
theorem dim_y {S : St} {k i : Nat} {t : Int32} (hi : i < 10) (h : owB S k (S 1 k - nI i) t = true) : dimR S k t (10 - i) = nI i := by
  obtain ⟨r, hr⟩ : ∃ r, 10 - i = r + 1 := ⟨9 - i, by omega⟩
  rw [hr]
  show (if owB S k (S 1 k - nI (9 - r)) t then nI (9 - r) else _) = _
  rw [show 9 - r = i by omega, if_pos h]
theorem dim_u {S : St} {k i : Nat} {t : Int32} (hi : i < 10) (h0 : owB S k (S 1 k - nI i) t = false) (h : owB S k (S 1 k + nI i) t = true) : dimR S k t (10 - i) = 10 + nI i := by
  obtain ⟨r, hr⟩ : ∃ r, 10 - i = r + 1 := ⟨9 - i, by omega⟩
  rw [hr]
  show (if owB S k (S 1 k - nI (9 - r)) t then nI (9 - r) else if owB S k (S 1 k + nI (9 - r)) t then 10 + nI (9 - r) else _) = _
  rw [show 9 - r = i by omega, h0, h]; rfl
theorem dim_n {S : St} {k i : Nat} {t : Int32} (hi : i < 10) (h0 : owB S k (S 1 k - nI i) t = false) (h : owB S k (S 1 k + nI i) t = false) : dimR S k t (10 - i) = dimR S k t (10 - (i + 1)) := by
  obtain ⟨r, hr⟩ : ∃ r, 10 - i = r + 1 := ⟨9 - i, by omega⟩
  rw [hr, show 10 - (i + 1) = r by omega]
  show (if owB S k (S 1 k - nI (9 - r)) t then nI (9 - r) else if owB S k (S 1 k + nI (9 - r)) t then 10 + nI (9 - r) else _) = _
  rw [show 9 - r = i by omega, h0, h]; rfl
theorem ow_no {S : St} {k : Nat} {x t : Int32} (h : x < 0 ∨ 9 < x) : owB S k x t = false := by
  unfold owB
  rcases h with h | h
  · rw [show decide (x < 0) = true by simp only [decide_eq_true_eq]; exact h]; rfl
  · rw [show decide (9 < x) = true by simp only [decide_eq_true_eq]; exact h]; simp
theorem ow_in {S : St} {k : Nat} {x t : Int32} (h1 : ¬ x < 0) (h2 : ¬ 9 < x) : owB S k x t = decide (owedF (setS S 1 k x) k ≤ t) := by
  unfold owB
  rw [show decide (x < 0) = false by simp only [decide_eq_false_iff_not]; exact h1, show decide (9 < x) = false by simp only [decide_eq_false_iff_not]; exact h2]; rfl
theorem b9_of {x : Int32} (h1 : ¬ x < 0) (h2 : ¬ 9 < x) : ∃ b, b ≤ 9 ∧ x = nI b := by
  rw [i_lt, i_0] at h1
  rw [i_lt, show (9 : Int32).toInt = 9 from rfl] at h2
  exact nI_back (by omega) (n := 9) (by omega) (by decide)
theorem t01 (b : Bool) : (if b then (1 : Int32) else 0) = 0 ↔ b = false := by cases b <;> decide
theorem c_owes {l : Launch} {D : va_G} {base : Nat} {h : Hp} (hF : WFS (laneS h 2)) {k : Nat} (hk : k < nW (laneS h 2)) {x t : Int32} : SI l D base M_Lm_owesAtMost [.ref 0, .int (nI k), .int x, .int t] h (fun g y => FC h g ∧ y = if owB (laneS h 2) k x t then 1 else 0) := by
  refine SP.of [some (.ref 0), some (.int (nI k)), some (.int x), some (.int t)] (by decide) rfl (Nat.le_of_ble_eq_true rfl) ?_
  have hw5 := hF.1.1
  have hm6 := hF.2.1.1
  by_cases h1 : x < 0
  · refine wh_iload_n (pc := 0) d_Lm_owesAtMost_0 rfl rfl ?_
    refine wh_if_lt (pc := 1) (tgt := 21) d_Lm_owesAtMost_1 (by decide) (fun c_1 => ?_) (fun c_1 => absurd h1 c_1)
    refine wh_iconst (pc := 21) (v := 0) d_Lm_owesAtMost_21 (by decide) ?_
    refine wh_zret (pc := 22) d_Lm_owesAtMost_22 rfl rfl ?_
    exact ⟨_, rfl, FC.rf h, by rw [ow_no (Or.inl h1)]; rfl⟩
  by_cases h2 : 9 < x
  · refine wh_iload_n (pc := 0) d_Lm_owesAtMost_0 rfl rfl ?_
    refine wh_if_lt (pc := 1) (tgt := 21) d_Lm_owesAtMost_1 (by decide) (fun c_1 => absurd c_1 h1) (fun c_1 => ?_)
    refine wh_iload_n (pc := 4) d_Lm_owesAtMost_4 rfl rfl ?_
    refine wh_bipush (pc := 5) (v := 9) d_Lm_owesAtMost_5 (by decide) ?_
    refine wh_icmp_gt (pc := 7) (tgt := 21) d_Lm_owesAtMost_7 (by decide) (fun c_7 => ?_) (fun c_7 => absurd h2 c_7)
    refine wh_iconst (pc := 21) (v := 0) d_Lm_owesAtMost_21 (by decide) ?_
    refine wh_zret (pc := 22) d_Lm_owesAtMost_22 rfl rfl ?_
    exact ⟨_, rfl, FC.rf h, by rw [ow_no (Or.inr h2)]; rfl⟩
  obtain ⟨b, hb9, hbx⟩ := b9_of h1 h2
  have eC := lane_cp hw5 hm6
  have eL : laneS (sI (cpN h 10 2 5 6) 12 (nI k).toNatClampNeg x) 10 = setS (laneS h 2) 1 k x := by rw [cl_nI (by omega)]; exact (lane_s1 (b := 10) (by rw [eC]; exact hk)).trans (by rw [eC])
  have hF2 : WFS (setS (laneS h 2) 1 k x) := by rw [hbx]; exact wf_set1 hF hb9
  refine wh_iload_n (pc := 0) d_Lm_owesAtMost_0 rfl rfl ?_
  refine wh_if_lt (pc := 1) (tgt := 21) d_Lm_owesAtMost_1 (by decide) (fun c_1 => absurd c_1 h1) (fun c_1 => ?_)
  refine wh_iload_n (pc := 4) d_Lm_owesAtMost_4 rfl rfl ?_
  refine wh_bipush (pc := 5) (v := 9) d_Lm_owesAtMost_5 (by decide) ?_
  refine wh_icmp_gt (pc := 7) (tgt := 21) d_Lm_owesAtMost_7 (by decide) (fun c_7 => absurd c_7 h2) (fun c_7 => ?_)
  refine wh_aload_n (pc := 10) d_Lm_owesAtMost_10 rfl rfl ?_
  refine gf_Lm_20 (pc := 11) rfl d_Lm_owesAtMost_11 ?_
  refine wh_iload_n (pc := 14) d_Lm_owesAtMost_14 rfl rfl ?_
  refine cv_Lm_101_d (pc := 15) (Or.inl rfl) rfl d_Lm_owesAtMost_15 ⟨⟨by decide, by decide⟩, rfl, rfl⟩ (s_hasWindow (Or.inl rfl) (wf_w hF) hw5) (Nat.le_of_ble_eq_true rfl) ?_
  refine wh_if_ne (pc := 18) (tgt := 23) d_Lm_owesAtMost_18 (by decide) (fun c_18 => ?_) (fun c_18 => absurd c_18 (bI_k hk (by omega)))
  refine wh_aload_n (pc := 23) d_Lm_owesAtMost_23 rfl rfl ?_
  refine gf_Lm_24 (pc := 24) rfl d_Lm_owesAtMost_24 ?_
  refine wh_aload_n (pc := 27) d_Lm_owesAtMost_27 rfl rfl ?_
  refine gf_Lm_20 (pc := 28) rfl d_Lm_owesAtMost_28 ?_
  refine cv_Lm_72_d (pc := 31) (Or.inr rfl) rfl d_Lm_owesAtMost_31 ⟨⟨by decide, by decide⟩, rfl, rfl⟩ (s_copy (Or.inr rfl) (Or.inl rfl) (by decide)) (Nat.le_of_ble_eq_true rfl) ?_
  refine wh_aload_n (pc := 34) d_Lm_owesAtMost_34 rfl rfl ?_
  refine gf_Lm_24 (pc := 35) rfl d_Lm_owesAtMost_35 ?_
  refine gf_Lm_108 (pc := 38) (Or.inr rfl) rfl d_Lm_owesAtMost_38 ?_
  refine wh_iload_n (pc := 41) d_Lm_owesAtMost_41 rfl rfl ?_
  refine wh_iload_n (pc := 42) d_Lm_owesAtMost_42 rfl rfl ?_
  refine wh_iast (pc := 43) d_Lm_owesAtMost_43 (la_burns (Or.inr rfl)) (in_nI (by omega) (by omega)) ?_
  refine wh_aload_n (pc := 44) d_Lm_owesAtMost_44 rfl rfl ?_
  refine gf_Lm_24 (pc := 45) rfl d_Lm_owesAtMost_45 ?_
  refine wh_iload_n (pc := 48) d_Lm_owesAtMost_48 rfl rfl ?_
  refine cv_Lm_114_d (pc := 49) (Or.inr rfl) rfl d_Lm_owesAtMost_49 ⟨⟨by decide, by decide⟩, rfl, rfl⟩ (s_owedBy (Or.inr rfl) eL hF2 (by rw [nW_set (by omega)]; exact hk)) (Nat.le_of_ble_eq_true rfl) ?_
  refine wh_iload_n (pc := 52) d_Lm_owesAtMost_52 rfl rfl ?_
  refine wh_icmp_gt (pc := 53) (tgt := 60) d_Lm_owesAtMost_53 (by decide) (fun c_53 => ?_) (fun c_53 => ?_)
  · refine wh_iconst (pc := 60) (v := 0) d_Lm_owesAtMost_60 (by decide) ?_
    refine wh_zret (pc := 61) d_Lm_owesAtMost_61 rfl rfl ?_
    refine ⟨_, rfl, (fc_cp.tr (fc_sI (by unfold scC; omega))).tr (fc_fill (by unfold scC; omega)), ?_⟩
    rw [ow_in h1 h2]
    first
      | (rw [show decide (owedF (setS (laneS h 2) 1 k x) k ≤ t) = false by simp only [decide_eq_false_iff_not]; rw [i_le]; rw [i_lt] at c_53; omega]; rfl)
      | (rw [show decide (owedF (setS (laneS h 2) 1 k x) k ≤ t) = true by simp only [decide_eq_true_eq]; rw [i_le]; rw [i_lt] at c_53; omega]; rfl)
  · refine wh_iconst (pc := 56) (v := 1) d_Lm_owesAtMost_56 (by decide) ?_
    refine wh_goto (pc := 57) (tgt := 61) d_Lm_owesAtMost_57 (by decide) ?_
    refine wh_zret (pc := 61) d_Lm_owesAtMost_61 rfl rfl ?_
    refine ⟨_, rfl, (fc_cp.tr (fc_sI (by unfold scC; omega))).tr (fc_fill (by unfold scC; omega)), ?_⟩
    rw [ow_in h1 h2]
    first
      | (rw [show decide (owedF (setS (laneS h 2) 1 k x) k ≤ t) = false by simp only [decide_eq_false_iff_not]; rw [i_le]; rw [i_lt] at c_53; omega]; rfl)
      | (rw [show decide (owedF (setS (laneS h 2) 1 k x) k ≤ t) = true by simp only [decide_eq_true_eq]; rw [i_le]; rw [i_lt] at c_53; omega]; rfl)
theorem c_dim {l : Launch} {D : va_G} {base : Nat} {h : Hp} (hr : Rel h) (w t : Int32) : SI l D base M_Lm_dim [.ref 0, .int w, .int t] h (fun g x => FC h g ∧ x = dimF (laneS h 2) w t) := by
  refine SP.of [some (.ref 0), some (.int w), some (.int t), none, none] (by decide) rfl (Nat.le_of_ble_eq_true rfl) ?_
  obtain ⟨hSt, hF⟩ := hr.street
  have hw5 := hF.1.1
  have hm6 := hF.2.1.1
  rcases bI_two (w := w) (n := nW (laneS h 2)) (by omega) with hz | ⟨k, hk, rfl⟩
  · refine wh_aload_n (pc := 0) d_Lm_dim_0 rfl rfl ?_
    refine gf_Lm_20 (pc := 1) rfl d_Lm_dim_1 ?_
    refine wh_iload_n (pc := 4) d_Lm_dim_4 rfl rfl ?_
    refine cv_Lm_101_d (pc := 5) (Or.inl rfl) rfl d_Lm_dim_5 ⟨⟨by decide, by decide⟩, rfl, rfl⟩ (s_hasWindow (Or.inl rfl) (wf_w hF) hw5) (Nat.le_of_ble_eq_true rfl) ?_
    refine wh_if_ne (pc := 8) (tgt := 13) d_Lm_dim_8 (by decide) (fun c_8 => absurd hz c_8) (fun c_8 => ?_)
    refine wh_iconst (pc := 11) (v := (-1)) d_Lm_dim_11 (by decide) ?_
    refine wh_iret (pc := 12) d_Lm_dim_12 rfl ?_
    exact ⟨_, rfl, FC.rf h, by unfold dimF; rw [if_pos hz]⟩
  · have hz := bI_k hk (show nW (laneS h 2) < 2 ^ 31 by omega)
    by_cases ht : t < 0 ∨ 99 < t
    · refine wh_aload_n (pc := 0) d_Lm_dim_0 rfl rfl ?_
      refine gf_Lm_20 (pc := 1) rfl d_Lm_dim_1 ?_
      refine wh_iload_n (pc := 4) d_Lm_dim_4 rfl rfl ?_
      refine cv_Lm_101_d (pc := 5) (Or.inl rfl) rfl d_Lm_dim_5 ⟨⟨by decide, by decide⟩, rfl, rfl⟩ (s_hasWindow (Or.inl rfl) (wf_w hF) hw5) (Nat.le_of_ble_eq_true rfl) ?_
      refine wh_if_ne (pc := 8) (tgt := 13) d_Lm_dim_8 (by decide) (fun c_8 => ?_) (fun c_8 => absurd c_8 hz)
      refine wh_iload_n (pc := 13) d_Lm_dim_13 rfl rfl ?_
      refine cs_Lm_165_d (pc := 14) rfl d_Lm_dim_14 ⟨⟨by decide, by decide⟩, rfl, rfl⟩ (s_isSum) (Nat.le_of_ble_eq_true rfl) ?_
      refine wh_if_ne (pc := 17) (tgt := 23) d_Lm_dim_17 (by decide) (fun c_17 => absurd (rg_no ht) c_17) (fun c_17 => ?_)
      refine wh_bipush (pc := 20) (v := (-2)) d_Lm_dim_20 (by decide) ?_
      refine wh_iret (pc := 22) d_Lm_dim_22 rfl ?_
      exact ⟨_, rfl, FC.rf h, by unfold dimF; rw [if_neg hz, if_pos ht]⟩
    · have hck := cl_nI (show k < 2 ^ 31 by omega)
      refine wh_aload_n (pc := 0) d_Lm_dim_0 rfl rfl ?_
      refine gf_Lm_20 (pc := 1) rfl d_Lm_dim_1 ?_
      refine wh_iload_n (pc := 4) d_Lm_dim_4 rfl rfl ?_
      refine cv_Lm_101_d (pc := 5) (Or.inl rfl) rfl d_Lm_dim_5 ⟨⟨by decide, by decide⟩, rfl, rfl⟩ (s_hasWindow (Or.inl rfl) (wf_w hF) hw5) (Nat.le_of_ble_eq_true rfl) ?_
      refine wh_if_ne (pc := 8) (tgt := 13) d_Lm_dim_8 (by decide) (fun c_8 => ?_) (fun c_8 => absurd c_8 hz)
      refine wh_iload_n (pc := 13) d_Lm_dim_13 rfl rfl ?_
      refine cs_Lm_165_d (pc := 14) rfl d_Lm_dim_14 ⟨⟨by decide, by decide⟩, rfl, rfl⟩ (s_isSum) (Nat.le_of_ble_eq_true rfl) ?_
      refine wh_if_ne (pc := 17) (tgt := 23) d_Lm_dim_17 (by decide) (fun c_17 => ?_) (fun c_17 => absurd c_17 (by rw [rg_yes ht]; decide))
      refine wh_aload_n (pc := 23) d_Lm_dim_23 rfl rfl ?_
      refine gf_Lm_20 (pc := 24) rfl d_Lm_dim_24 ?_
      refine gf_Lm_108 (pc := 27) (Or.inl rfl) rfl d_Lm_dim_27 ?_
      refine wh_iload_n (pc := 30) d_Lm_dim_30 rfl rfl ?_
      refine wh_iald (pc := 31) d_Lm_dim_31 (la_burns (Or.inl rfl)) (in_nI (by omega) (by omega)) ?_
      refine wh_istore_n (pc := 32) (ls2 := [_, _, _, _, _]) d_Lm_dim_32 rfl (by decide) rfl rfl ?_
      refine wh_iconst (pc := 33) (v := 0) d_Lm_dim_33 (by decide) ?_
      refine wh_istore (pc := 34) (ls2 := [_, _, _, _, _]) d_Lm_dim_34 (by decide) rfl rfl ?_
      refine wh_eq (wh_loopR 10 (fun i => [some (.ref 0), some (.int (nI k)), some (.int t), some (.int (laneS h 2 1 k)), some (.int (nI i))]) (fun i g => FC h g ∧ dimF (laneS h 2) (nI k) t = dimR (laneS h 2) k t (10 - i)) ?_ ?_ 0 h (Nat.zero_le _) ⟨FC.rf h, by unfold dimF; rw [if_neg hz, if_neg ht, hck]⟩) (by rw [hck, la1 hk]; rfl) rfl rfl
      · intro g hI
        refine wh_iload (pc := 36) d_Lm_dim_36 rfl ?_
        refine wh_bipush (pc := 38) (v := 9) d_Lm_dim_38 (by decide) ?_
        refine wh_icmp_gt (pc := 40) (tgt := 84) d_Lm_dim_40 (by decide) (fun c_40 => ?_) (fun c_40 => absurd (by decide) c_40)
        refine wh_bipush (pc := 84) (v := (-9)) d_Lm_dim_84 (by decide) ?_
        refine wh_iret (pc := 86) d_Lm_dim_86 rfl ?_
        exact ⟨_, rfl, hI.1, by rw [hI.2]; rfl⟩
      · intro i g hi hI ih
        have hlg : laneS g 2 = laneS h 2 := fc_lane hI.1
        refine wh_iload (pc := 36) d_Lm_dim_36 rfl ?_
        refine wh_bipush (pc := 38) (v := 9) d_Lm_dim_38 (by decide) ?_
        refine wh_icmp_gt (pc := 40) (tgt := 84) d_Lm_dim_40 (by decide) (fun c_40 => absurd c_40 (nI_nlt (show i ≤ 9 by omega) (by decide))) (fun c_40 => ?_)
        refine wh_aload_n (pc := 43) d_Lm_dim_43 rfl rfl ?_
        refine wh_iload_n (pc := 44) d_Lm_dim_44 rfl rfl ?_
        refine wh_iload_n (pc := 45) d_Lm_dim_45 rfl rfl ?_
        refine wh_iload (pc := 46) d_Lm_dim_46 rfl ?_
        refine wh_isub (pc := 48) d_Lm_dim_48 ?_
        refine wh_iload_n (pc := 49) d_Lm_dim_49 rfl rfl ?_
        refine cv_Lm_168_i (pc := 50) rfl d_Lm_dim_50 ⟨⟨by decide, by decide⟩, rfl, rfl⟩ (c_owes (by rw [hlg]; exact hF) (by rw [hlg]; exact hk)) (Nat.le_of_ble_eq_true rfl) (fun h_50 x_50 e_50 => ?_)
        have hlg2 : laneS h_50 2 = laneS h 2 := (fc_lane e_50.1).trans hlg
        refine wh_if_eq (pc := 53) (tgt := 59) d_Lm_dim_53 (by decide) (fun c_53 => ?_) (fun c_53 => ?_)
        · refine wh_aload_n (pc := 59) d_Lm_dim_59 rfl rfl ?_
          refine wh_iload_n (pc := 60) d_Lm_dim_60 rfl rfl ?_
          refine wh_iload_n (pc := 61) d_Lm_dim_61 rfl rfl ?_
          refine wh_iload (pc := 62) d_Lm_dim_62 rfl ?_
          refine wh_iadd (pc := 64) d_Lm_dim_64 ?_
          refine wh_iload_n (pc := 65) d_Lm_dim_65 rfl rfl ?_
          refine cv_Lm_168_i (pc := 66) rfl d_Lm_dim_66 ⟨⟨by decide, by decide⟩, rfl, rfl⟩ (c_owes (by rw [hlg2]; exact hF) (by rw [hlg2]; exact hk)) (Nat.le_of_ble_eq_true rfl) (fun h_66 x_66 e_66 => ?_)
          refine wh_if_eq (pc := 69) (tgt := 78) d_Lm_dim_69 (by decide) (fun c_69 => ?_) (fun c_69 => ?_)
          · refine wh_iinc (pc := 78) (ls2 := [_, _, _, _, _]) d_Lm_dim_78 rfl (nI_inc _) (by decide) rfl rfl ?_
            refine wh_goto (pc := 81) (tgt := 36) d_Lm_dim_81 (by decide) ?_
            rw [e_50.2, hlg, t01] at c_53
            rw [e_66.2, hlg2, t01] at c_69
            exact ih _ ⟨(hI.1.tr e_50.1).tr e_66.1, by rw [hI.2, dim_n hi c_53 c_69]⟩
          · refine wh_bipush (pc := 72) (v := 10) d_Lm_dim_72 (by decide) ?_
            refine wh_iload (pc := 74) d_Lm_dim_74 rfl ?_
            refine wh_iadd (pc := 76) d_Lm_dim_76 ?_
            refine wh_iret (pc := 77) d_Lm_dim_77 rfl ?_
            rw [e_50.2, hlg, t01] at c_53
            first
              | (have c2 : owB (laneS h 2) k (laneS h 2 1 k - nI i) t = true := by simpa using c_53
                 exact ⟨_, rfl, hI.1.tr e_50.1, by rw [hI.2, dim_y hi c2]⟩)
              | (rw [e_66.2, hlg2, t01] at c_69
                 have c2 : owB (laneS h 2) k (laneS h 2 1 k + nI i) t = true := by simpa using c_69
                 exact ⟨_, rfl, (hI.1.tr e_50.1).tr e_66.1, by rw [hI.2, dim_u hi c_53 c2]⟩)
        · refine wh_iload (pc := 56) d_Lm_dim_56 rfl ?_
          refine wh_iret (pc := 58) d_Lm_dim_58 rfl ?_
          rw [e_50.2, hlg, t01] at c_53
          first
            | (have c2 : owB (laneS h 2) k (laneS h 2 1 k - nI i) t = true := by simpa using c_53
               exact ⟨_, rfl, hI.1.tr e_50.1, by rw [hI.2, dim_y hi c2]⟩)
            | (rw [e_66.2, hlg2, t01] at c_69
               have c2 : owB (laneS h 2) k (laneS h 2 1 k + nI i) t = true := by simpa using c_69
               exact ⟨_, rfl, (hI.1.tr e_50.1).tr e_66.1, by rw [hI.2, dim_u hi c_53 c2]⟩)
theorem r_owes {l : Launch} {D : va_G} {base : Nat} {h : Hp} (hF : WFS (pageS h 48)) {k : Nat} (hk : k < nW (pageS h 48)) {x t : Int32} : SI l D base M_Md_owesBy [.ref 42, .int (nI k), .int x, .int t] h (fun g y => FM h g ∧ y = if owB (pageS h 48) k x t then 1 else 0) := by
  refine SP.of [some (.ref 42), some (.int (nI k)), some (.int x), some (.int t)] (by decide) rfl (Nat.le_of_ble_eq_true rfl) ?_
  have hw5 := hF.1.1
  have hm6 := hF.2.1.1
  by_cases h0 : x < 0 ∨ 9 < x
  · refine wh_iload_n (pc := 0) d_Md_owesBy_0 rfl rfl ?_
    refine wh_i2l (pc := 1) d_Md_owesBy_1 ?_
    refine wh_lconst (pc := 2) (v := 0) d_Md_owesBy_2 (by decide) ?_
    refine wh_ldc2 (pc := 3) d_Md_owesBy_3 kc_Md_164 ?_
    refine cs_Md_69_d (pc := 6) rfl d_Md_owesBy_6 ⟨⟨by decide, by decide⟩, rfl, rfl⟩ (m_in) (Nat.le_of_ble_eq_true rfl) ?_
    refine wh_if_ne (pc := 9) (tgt := 14) d_Md_owesBy_9 (by decide) (fun c_9 => absurd ((inL x 0 9 rfl rfl).mpr h0) c_9) (fun c_9 => ?_)
    refine wh_iconst (pc := 12) (v := 0) d_Md_owesBy_12 (by decide) ?_
    refine wh_zret (pc := 13) d_Md_owesBy_13 rfl rfl ?_
    exact ⟨_, rfl, FM.rf h, by rw [ow_no h0]; rfl⟩
  have h1 : ¬ x < 0 := fun z => h0 (Or.inl z)
  have h2 : ¬ 9 < x := fun z => h0 (Or.inr z)
  obtain ⟨b, hb9, hbx⟩ := b9_of h1 h2
  have eC := page_bg hw5 hm6
  have eL : pageS (sI (bgH h) 49 (0 + nI k).toNatClampNeg x) 49 = setS (pageS h 48) 1 k x := by rw [a0, cl_nI (by omega)]; exact (page_s1 (by rw [eC]; exact hk) (by rw [eC]; exact hw5)).trans (by rw [eC])
  have hF2 : WFS (setS (pageS h 48) 1 k x) := by rw [hbx]; exact wf_set1 hF hb9
  have e57 : gI (layH (sI (bgH h) 49 (0 + nI k).toNatClampNeg x) 49) 57 (nI k).toNatClampNeg = owedF (setS (pageS h 48) 1 k x) k := by rw [show (nI k).toNatClampNeg = k from cl_nI (by omega), lay_57 (by rw [eL, nW_set (by omega)]; exact hk), eL]
  refine wh_iload_n (pc := 0) d_Md_owesBy_0 rfl rfl ?_
  refine wh_i2l (pc := 1) d_Md_owesBy_1 ?_
  refine wh_lconst (pc := 2) (v := 0) d_Md_owesBy_2 (by decide) ?_
  refine wh_ldc2 (pc := 3) d_Md_owesBy_3 kc_Md_164 ?_
  refine cs_Md_69_d (pc := 6) rfl d_Md_owesBy_6 ⟨⟨by decide, by decide⟩, rfl, rfl⟩ (m_in) (Nat.le_of_ble_eq_true rfl) ?_
  refine wh_if_ne (pc := 9) (tgt := 14) d_Md_owesBy_9 (by decide) (fun c_9 => ?_) (fun c_9 => absurd c_9 (fun z => h0 ((inL x 0 9 rfl rfl).mp z)))
  refine wh_aload_n (pc := 14) d_Md_owesBy_14 rfl rfl ?_
  refine cv_Md_180_d (pc := 15) rfl d_Md_owesBy_15 ⟨⟨by decide, by decide⟩, rfl, rfl⟩ (m_begin) (Nat.le_of_ble_eq_true rfl) ?_
  refine wh_aload_n (pc := 18) d_Md_owesBy_18 rfl rfl ?_
  refine gf_Md_28 (pc := 19) rfl d_Md_owesBy_19 ?_
  refine wh_iconst (pc := 22) (v := 0) d_Md_owesBy_22 (by decide) ?_
  refine wh_iload_n (pc := 23) d_Md_owesBy_23 rfl rfl ?_
  refine wh_iadd (pc := 24) d_Md_owesBy_24 ?_
  refine wh_iload_n (pc := 25) d_Md_owesBy_25 rfl rfl ?_
  refine wh_iast (pc := 26) d_Md_owesBy_26 rfl (by first | exact in_nI (by omega) (by omega) | (simp only [a0, a5, a10, a19]; exact in_nI (by omega) (by omega)) | exact vp_in_iff.mpr (by decide)) ?_
  refine wh_aload_n (pc := 27) d_Md_owesBy_27 rfl rfl ?_
  refine wh_aload_n (pc := 28) d_Md_owesBy_28 rfl rfl ?_
  refine gf_Md_28 (pc := 29) rfl d_Md_owesBy_29 ?_
  refine cv_Md_148_d (pc := 32) rfl d_Md_owesBy_32 ⟨⟨by decide, by decide⟩, rfl, rfl⟩ (m_lay (Or.inr rfl) eL hF2) (Nat.le_of_ble_eq_true rfl) ?_
  refine wh_pop (pc := 35) d_Md_owesBy_35 rfl ?_
  refine wh_aload_n (pc := 36) d_Md_owesBy_36 rfl rfl ?_
  refine gf_Md_53 (pc := 37) rfl d_Md_owesBy_37 ?_
  refine wh_iload_n (pc := 40) d_Md_owesBy_40 rfl rfl ?_
  refine wh_iald (pc := 41) d_Md_owesBy_41 rfl (by first | exact in_nI (by omega) (by omega) | (simp only [a0, a5, a10, a19]; exact in_nI (by omega) (by omega)) | exact vp_in_iff.mpr (by decide)) ?_
  refine wh_iload_n (pc := 42) d_Md_owesBy_42 rfl rfl ?_
  refine wh_icmp_gt (pc := 43) (tgt := 50) d_Md_owesBy_43 (by decide) (fun c_43 => ?_) (fun c_43 => ?_)
  · refine wh_iconst (pc := 50) (v := 0) d_Md_owesBy_50 (by decide) ?_
    refine wh_zret (pc := 51) d_Md_owesBy_51 rfl rfl ?_
    refine ⟨_, rfl, (fm_bg.tr (fm_sI (by unfold scM; omega))).tr fm_lay, ?_⟩
    rw [ow_in h1 h2]
    rw [show gI (layH (sI (fillA h 49 (fun k => gI h 48 k) 24) 49 (0 + nI k).toNatClampNeg x) 49) 57 (nI k).toNatClampNeg = owedF (setS (pageS h 48) 1 k x) k from e57] at c_43
    first
      | (rw [show decide (owedF (setS (pageS h 48) 1 k x) k ≤ t) = false by simp only [decide_eq_false_iff_not]; rw [i_le]; rw [i_lt] at c_43; omega]; rfl)
      | (rw [show decide (owedF (setS (pageS h 48) 1 k x) k ≤ t) = true by simp only [decide_eq_true_eq]; rw [i_le]; rw [i_lt] at c_43; omega]; rfl)
  · refine wh_iconst (pc := 46) (v := 1) d_Md_owesBy_46 (by decide) ?_
    refine wh_goto (pc := 47) (tgt := 51) d_Md_owesBy_47 (by decide) ?_
    refine wh_zret (pc := 51) d_Md_owesBy_51 rfl rfl ?_
    refine ⟨_, rfl, (fm_bg.tr (fm_sI (by unfold scM; omega))).tr fm_lay, ?_⟩
    rw [ow_in h1 h2]
    rw [show gI (layH (sI (fillA h 49 (fun k => gI h 48 k) 24) 49 (0 + nI k).toNatClampNeg x) 49) 57 (nI k).toNatClampNeg = owedF (setS (pageS h 48) 1 k x) k from e57] at c_43
    first
      | (rw [show decide (owedF (setS (pageS h 48) 1 k x) k ≤ t) = false by simp only [decide_eq_false_iff_not]; rw [i_le]; rw [i_lt] at c_43; omega]; rfl)
      | (rw [show decide (owedF (setS (pageS h 48) 1 k x) k ≤ t) = true by simp only [decide_eq_true_eq]; rw [i_le]; rw [i_lt] at c_43; omega]; rfl)
theorem r_dim {l : Launch} {D : va_G} {base : Nat} {h : Hp} (hr : Rel h) (w t : Int32) : SI l D base M_Md_dim [.ref 42, .int w, .int t] h (fun g x => FM h g ∧ x = dimF (laneS h 2) w t) := by
  refine SP.of [some (.ref 42), some (.int w), some (.int t), none] (by decide) rfl (Nat.le_of_ble_eq_true rfl) ?_
  obtain ⟨hSt, hF⟩ := hr.street
  have hw5 := hF.1.1
  have hm6 := hF.2.1.1
  have hF8 : WFS (pageS h 48) := by rw [← hSt]; exact hF
  have hP0 : pageS (sI h 42 0 0) 48 = pageS h 48 := fm_page fm_thr
  have hw := hr.w
  rw [hSt] at hw5 hm6 ⊢
  rcases bI_two (w := w) (n := nW (pageS h 48)) (by omega) with hz | ⟨k, hk, rfl⟩
  · refine wh_aload_n (pc := 0) d_Md_dim_0 rfl rfl ?_
    refine wh_iconst (pc := 1) (v := 0) d_Md_dim_1 (by decide) ?_
    refine pf_Md_62 (pc := 2) rfl d_Md_dim_2 ?_
    refine wh_aload_n (pc := 5) d_Md_dim_5 rfl rfl ?_
    refine wh_iload_n (pc := 6) d_Md_dim_6 rfl rfl ?_
    refine cv_Md_157_d (pc := 7) rfl d_Md_dim_7 ⟨⟨by decide, by decide⟩, rfl, rfl⟩ (m_noW (n := nW (pageS h 48)) (by rw [gI_sI, if_neg (by decide)]; exact pf_w hF8) (by omega)) (Nat.le_of_ble_eq_true rfl) ?_
    refine wh_if_eq (pc := 10) (tgt := 15) d_Md_dim_10 (by decide) (fun c_10 => absurd c_10 (bN_n hz)) (fun c_10 => ?_)
    refine wh_iconst (pc := 13) (v := (-1)) d_Md_dim_13 (by decide) ?_
    refine wh_iret (pc := 14) d_Md_dim_14 rfl ?_
    exact ⟨_, rfl, fm_thr, by unfold dimF; rw [if_pos hz]⟩
  · have hz := bI_k hk (show nW (pageS h 48) < 2 ^ 31 by omega)
    by_cases ht : t < 0 ∨ 99 < t
    · refine wh_aload_n (pc := 0) d_Md_dim_0 rfl rfl ?_
      refine wh_iconst (pc := 1) (v := 0) d_Md_dim_1 (by decide) ?_
      refine pf_Md_62 (pc := 2) rfl d_Md_dim_2 ?_
      refine wh_aload_n (pc := 5) d_Md_dim_5 rfl rfl ?_
      refine wh_iload_n (pc := 6) d_Md_dim_6 rfl rfl ?_
      refine cv_Md_157_d (pc := 7) rfl d_Md_dim_7 ⟨⟨by decide, by decide⟩, rfl, rfl⟩ (m_noW (n := nW (pageS h 48)) (by rw [gI_sI, if_neg (by decide)]; exact pf_w hF8) (by omega)) (Nat.le_of_ble_eq_true rfl) ?_
      refine wh_if_eq (pc := 10) (tgt := 15) d_Md_dim_10 (by decide) (fun c_10 => ?_) (fun c_10 => absurd (bN_k hk (by omega)) c_10)
      refine wh_iload_n (pc := 15) d_Md_dim_15 rfl rfl ?_
      refine wh_i2l (pc := 16) d_Md_dim_16 ?_
      refine wh_lconst (pc := 17) (v := 0) d_Md_dim_17 (by decide) ?_
      refine wh_ldc2 (pc := 18) d_Md_dim_18 kc_Md_183 ?_
      refine cs_Md_69_d (pc := 21) rfl d_Md_dim_21 ⟨⟨by decide, by decide⟩, rfl, rfl⟩ (m_in) (Nat.le_of_ble_eq_true rfl) ?_
      refine wh_if_ne (pc := 24) (tgt := 30) d_Md_dim_24 (by decide) (fun c_24 => absurd ((inL t 0 99 rfl rfl).mpr ht) c_24) (fun c_24 => ?_)
      refine wh_bipush (pc := 27) (v := (-2)) d_Md_dim_27 (by decide) ?_
      refine wh_iret (pc := 29) d_Md_dim_29 rfl ?_
      exact ⟨_, rfl, fm_thr, by unfold dimF; rw [if_neg hz, if_pos ht]⟩
    · have hck := cl_nI (show k < 2 ^ 31 by omega)
      refine wh_aload_n (pc := 0) d_Md_dim_0 rfl rfl ?_
      refine wh_iconst (pc := 1) (v := 0) d_Md_dim_1 (by decide) ?_
      refine pf_Md_62 (pc := 2) rfl d_Md_dim_2 ?_
      refine wh_aload_n (pc := 5) d_Md_dim_5 rfl rfl ?_
      refine wh_iload_n (pc := 6) d_Md_dim_6 rfl rfl ?_
      refine cv_Md_157_d (pc := 7) rfl d_Md_dim_7 ⟨⟨by decide, by decide⟩, rfl, rfl⟩ (m_noW (n := nW (pageS h 48)) (by rw [gI_sI, if_neg (by decide)]; exact pf_w hF8) (by omega)) (Nat.le_of_ble_eq_true rfl) ?_
      refine wh_if_eq (pc := 10) (tgt := 15) d_Md_dim_10 (by decide) (fun c_10 => ?_) (fun c_10 => absurd (bN_k hk (by omega)) c_10)
      refine wh_iload_n (pc := 15) d_Md_dim_15 rfl rfl ?_
      refine wh_i2l (pc := 16) d_Md_dim_16 ?_
      refine wh_lconst (pc := 17) (v := 0) d_Md_dim_17 (by decide) ?_
      refine wh_ldc2 (pc := 18) d_Md_dim_18 kc_Md_183 ?_
      refine cs_Md_69_d (pc := 21) rfl d_Md_dim_21 ⟨⟨by decide, by decide⟩, rfl, rfl⟩ (m_in) (Nat.le_of_ble_eq_true rfl) ?_
      refine wh_if_ne (pc := 24) (tgt := 30) d_Md_dim_24 (by decide) (fun c_24 => ?_) (fun c_24 => absurd c_24 (fun z => ht ((inL t 0 99 rfl rfl).mp z)))
      refine wh_iconst (pc := 30) (v := 0) d_Md_dim_30 (by decide) ?_
      refine wh_istore_n (pc := 31) (ls2 := [_, _, _, _]) d_Md_dim_31 rfl (by decide) rfl rfl ?_
      refine wh_loopR 10 (fun i => [some (.ref 42), some (.int (nI k)), some (.int t), some (.int (nI i))]) (fun i g => FM h g ∧ dimF (pageS h 48) (nI k) t = dimR (pageS h 48) k t (10 - i)) ?_ ?_ 0 _ (Nat.zero_le _) ⟨fm_thr, by unfold dimF; rw [if_neg hz, if_neg ht, hck]⟩
      · intro g hI
        refine wh_iload_n (pc := 32) d_Md_dim_32 rfl rfl ?_
        refine wh_bipush (pc := 33) (v := 10) d_Md_dim_33 (by decide) ?_
        refine wh_icmp_ge (pc := 35) (tgt := 89) d_Md_dim_35 (by decide) (fun c_35 => ?_) (fun c_35 => absurd (by decide) c_35)
        refine wh_bipush (pc := 89) (v := (-9)) d_Md_dim_89 (by decide) ?_
        refine wh_iret (pc := 91) d_Md_dim_91 rfl ?_
        exact ⟨_, rfl, hI.1, by rw [hI.2]; rfl⟩
      · intro i g hi hI ih
        have hlg : pageS g 48 = pageS h 48 := fm_page hI.1
        have e1 : gI g 48 (0 + nI k).toNatClampNeg = pageS h 48 1 k := by rw [a0, hck, hI.1.2 48 k (by unfold scM; omega), pa1 hk]
        refine wh_iload_n (pc := 32) d_Md_dim_32 rfl rfl ?_
        refine wh_bipush (pc := 33) (v := 10) d_Md_dim_33 (by decide) ?_
        refine wh_icmp_ge (pc := 35) (tgt := 89) d_Md_dim_35 (by decide) (fun c_35 => absurd c_35 (nI_ge hi (by decide))) (fun c_35 => ?_)
        refine wh_aload_n (pc := 38) d_Md_dim_38 rfl rfl ?_
        refine wh_iload_n (pc := 39) d_Md_dim_39 rfl rfl ?_
        refine wh_aload_n (pc := 40) d_Md_dim_40 rfl rfl ?_
        refine gf_Md_25 (pc := 41) rfl d_Md_dim_41 ?_
        refine wh_iconst (pc := 44) (v := 0) d_Md_dim_44 (by decide) ?_
        refine wh_iload_n (pc := 45) d_Md_dim_45 rfl rfl ?_
        refine wh_iadd (pc := 46) d_Md_dim_46 ?_
        refine wh_iald (pc := 47) d_Md_dim_47 rfl (by first | exact in_nI (by omega) (by omega) | (simp only [a0, a5, a10, a19]; exact in_nI (by omega) (by omega)) | exact vp_in_iff.mpr (by decide)) ?_
        refine wh_iload_n (pc := 48) d_Md_dim_48 rfl rfl ?_
        refine wh_isub (pc := 49) d_Md_dim_49 ?_
        rw [e1]
        refine wh_iload_n (pc := 50) d_Md_dim_50 rfl rfl ?_
        refine cv_Md_185_i (pc := 51) rfl d_Md_dim_51 ⟨⟨by decide, by decide⟩, rfl, rfl⟩ (r_owes (by rw [hlg]; exact hF8) (by rw [hlg]; exact hk)) (Nat.le_of_ble_eq_true rfl) (fun h_51 x_51 e_51 => ?_)
        have hlg2 : pageS h_51 48 = pageS h 48 := (fm_page e_51.1).trans hlg
        refine wh_if_eq (pc := 54) (tgt := 59) d_Md_dim_54 (by decide) (fun c_54 => ?_) (fun c_54 => ?_)
        · refine wh_aload_n (pc := 59) d_Md_dim_59 rfl rfl ?_
          refine wh_iload_n (pc := 60) d_Md_dim_60 rfl rfl ?_
          refine wh_aload_n (pc := 61) d_Md_dim_61 rfl rfl ?_
          refine gf_Md_25 (pc := 62) rfl d_Md_dim_62 ?_
          refine wh_iconst (pc := 65) (v := 0) d_Md_dim_65 (by decide) ?_
          refine wh_iload_n (pc := 66) d_Md_dim_66 rfl rfl ?_
          refine wh_iadd (pc := 67) d_Md_dim_67 ?_
          refine wh_iald (pc := 68) d_Md_dim_68 rfl (by first | exact in_nI (by omega) (by omega) | (simp only [a0, a5, a10, a19]; exact in_nI (by omega) (by omega)) | exact vp_in_iff.mpr (by decide)) ?_
          refine wh_iload_n (pc := 69) d_Md_dim_69 rfl rfl ?_
          refine wh_iadd (pc := 70) d_Md_dim_70 ?_
          have e2 : gI h_51 48 (0 + nI k).toNatClampNeg = pageS h 48 1 k := by rw [e_51.1.2 48 _ (by unfold scM; omega)]; exact e1
          rw [e2]
          refine wh_iload_n (pc := 71) d_Md_dim_71 rfl rfl ?_
          refine cv_Md_185_i (pc := 72) rfl d_Md_dim_72 ⟨⟨by decide, by decide⟩, rfl, rfl⟩ (r_owes (by rw [hlg2]; exact hF8) (by rw [hlg2]; exact hk)) (Nat.le_of_ble_eq_true rfl) (fun h_72 x_72 e_72 => ?_)
          refine wh_if_eq (pc := 75) (tgt := 83) d_Md_dim_75 (by decide) (fun c_75 => ?_) (fun c_75 => ?_)
          · refine wh_iinc (pc := 83) (ls2 := [_, _, _, _]) d_Md_dim_83 rfl (nI_inc _) (by decide) rfl rfl ?_
            refine wh_goto (pc := 86) (tgt := 32) d_Md_dim_86 (by decide) ?_
            rw [e_51.2, hlg, t01] at c_54
            rw [e_72.2, hlg2, t01] at c_75
            exact ih _ ⟨(hI.1.tr e_51.1).tr e_72.1, by rw [hI.2, dim_n hi c_54 c_75]⟩
          · refine wh_bipush (pc := 78) (v := 10) d_Md_dim_78 (by decide) ?_
            refine wh_iload_n (pc := 80) d_Md_dim_80 rfl rfl ?_
            refine wh_iadd (pc := 81) d_Md_dim_81 ?_
            refine wh_iret (pc := 82) d_Md_dim_82 rfl ?_
            rw [e_51.2, hlg, t01] at c_54
            first
              | (have c2 : owB (pageS h 48) k (pageS h 48 1 k - nI i) t = true := by simpa using c_54
                 exact ⟨_, rfl, hI.1.tr e_51.1, by rw [hI.2, dim_y hi c2]⟩)
              | (rw [e_72.2, hlg2, t01] at c_75
                 have c2 : owB (pageS h 48) k (pageS h 48 1 k + nI i) t = true := by simpa using c_75
                 exact ⟨_, rfl, (hI.1.tr e_51.1).tr e_72.1, by rw [hI.2, dim_u hi c_54 c2]⟩)
        · refine wh_iload_n (pc := 57) d_Md_dim_57 rfl rfl ?_
          refine wh_iret (pc := 58) d_Md_dim_58 rfl ?_
          rw [e_51.2, hlg, t01] at c_54
          first
            | (have c2 : owB (pageS h 48) k (pageS h 48 1 k - nI i) t = true := by simpa using c_54
               exact ⟨_, rfl, hI.1.tr e_51.1, by rw [hI.2, dim_y hi c2]⟩)
            | (rw [e_72.2, hlg2, t01] at c_75
               have c2 : owB (pageS h 48) k (pageS h 48 1 k + nI i) t = true := by simpa using c_75
               exact ⟨_, rfl, (hI.1.tr e_51.1).tr e_72.1, by rw [hI.2, dim_u hi c_54 c2]⟩)
theorem x_dim {l : Launch} {D : va_G} {base : Nat} (w t : Int32) : CMD l D base M_Lm_dim M_Md_dim [.int w, .int t] := CMD.q (fun h => dimF (laneS h 2) w t) (fun h h' f _ => by rw [fc_lane f]) (fun h hr => c_dim hr w t) (fun h hr => r_dim hr w t)

theorem dig_100 {rr p : Nat} (hr : rr < 2 ^ 31) (hp : 0 < p) (hp2 : p < 2 ^ 31) : nI rr / nI p - nI rr / nI p / 100 * 100 = nI (rr / p % 100) := by
  have : rr / p < 2 ^ 31 := Nat.lt_of_le_of_lt (Nat.div_le_self _ _) hr
  rw [pk_div hr hp hp2, show (100 : Int32) = nI 100 from rfl, pk_rem this (by decide) (by decide)]
theorem dig_10 {d : Nat} (hd : d < 100) : nI d / 10 = nI (d / 10) ∧ nI d - nI d / 10 * 10 = nI (d % 10) := by
  refine ⟨?_, ?_⟩
  · rw [show (10 : Int32) = nI 10 from rfl, pk_div (by omega) (by decide) (by decide)]
  · rw [show (10 : Int32) = nI 10 from rfl, pk_rem (by omega) (by decide) (by decide)]
theorem c_judge {l : Launch} {D : va_G} {base : Nat} {h : Hp} (hr : Rel h) (w t : Int32) : SI l D base M_Lm_judge [.ref 0, .int w, .int t] h (fun g x => FC h g ∧ x = judF (laneS h 2) w t) := by
  refine SP.of [some (.ref 0), some (.int w), some (.int t), none, none, none, none] (by decide) rfl (Nat.le_of_ble_eq_true rfl) ?_
  obtain ⟨hSt, hF⟩ := hr.street
  have hw5 := hF.1.1
  have hm6 := hF.2.1.1
  by_cases h0 : w < 1 ∨ 4 < w
  · have hm : judF (laneS h 2) w t = -2 := by unfold judF; rw [if_pos h0]
    refine wh_iload_n (pc := 0) d_Lm_judge_0 rfl rfl ?_
    refine wh_iconst (pc := 1) (v := 1) d_Lm_judge_1 (by decide) ?_
    refine wh_icmp_lt (pc := 2) (tgt := 10) d_Lm_judge_2 (by decide) (fun c_2 => ?_) (fun c_2 => ?_)
    · refine wh_bipush (pc := 10) (v := (-2)) d_Lm_judge_10 (by decide) ?_
      refine wh_iret (pc := 12) d_Lm_judge_12 rfl ?_
      exact ⟨_, rfl, FC.rf h, hm.symm⟩
    · refine wh_iload_n (pc := 5) d_Lm_judge_5 rfl rfl ?_
      refine wh_iconst (pc := 6) (v := 4) d_Lm_judge_6 (by decide) ?_
      refine wh_icmp_le (pc := 7) (tgt := 13) d_Lm_judge_7 (by decide) (fun c_7 => ?_) (fun c_7 => ?_)
      · rw [i_lt, i_lt] at h0
        rw [i_lt] at c_2
        rw [i_le] at c_7
        omega
      · refine wh_bipush (pc := 10) (v := (-2)) d_Lm_judge_10 (by decide) ?_
        refine wh_iret (pc := 12) d_Lm_judge_12 rfl ?_
        exact ⟨_, rfl, FC.rf h, hm.symm⟩
  obtain ⟨n, hn1, hn4, rfl⟩ := n14 h0
  have hcn := cl_nI (show n < 2 ^ 31 by omega)
  have hpn : 100 ^ n ≤ 100000000 := pow100_le hn4
  have b2 : ¬ nI n < 1 := nI_nlt (b := 1) hn1 (by omega)
  have b7 : nI n ≤ 4 := nI_le (b := 4) hn4 (by decide)
  by_cases h1 : t < 0 ∨ powN 100 n ≤ t
  · have hm : judF (laneS h 2) (nI n) t = -2 := by unfold judF; rw [if_neg h0, hcn, if_pos h1]
    refine wh_iload_n (pc := 0) d_Lm_judge_0 rfl rfl ?_
    refine wh_iconst (pc := 1) (v := 1) d_Lm_judge_1 (by decide) ?_
    refine wh_icmp_lt (pc := 2) (tgt := 10) d_Lm_judge_2 (by decide) (fun c_2 => absurd c_2 b2) (fun c_2 => ?_)
    refine wh_iload_n (pc := 5) d_Lm_judge_5 rfl rfl ?_
    refine wh_iconst (pc := 6) (v := 4) d_Lm_judge_6 (by decide) ?_
    refine wh_icmp_le (pc := 7) (tgt := 13) d_Lm_judge_7 (by decide) (fun c_7 => ?_) (fun c_7 => absurd b7 c_7)
    refine wh_bipush (pc := 13) (v := 100) d_Lm_judge_13 (by decide) ?_
    refine wh_iload_n (pc := 15) d_Lm_judge_15 rfl rfl ?_
    refine cs_Lm_172_d (pc := 16) rfl d_Lm_judge_16 ⟨⟨by decide, by decide⟩, rfl, rfl⟩ (c_power (by omega)) (Nat.le_of_ble_eq_true rfl) ?_
    refine wh_istore_n (pc := 19) (ls2 := [_, _, _, _, _, _, _]) d_Lm_judge_19 rfl (by decide) rfl rfl ?_
    refine wh_iload_n (pc := 20) d_Lm_judge_20 rfl rfl ?_
    refine wh_if_lt (pc := 21) (tgt := 29) d_Lm_judge_21 (by decide) (fun c_21 => ?_) (fun c_21 => ?_)
    · refine wh_bipush (pc := 29) (v := (-2)) d_Lm_judge_29 (by decide) ?_
      refine wh_iret (pc := 31) d_Lm_judge_31 rfl ?_
      exact ⟨_, rfl, FC.rf h, hm.symm⟩
    · refine wh_iload_n (pc := 24) d_Lm_judge_24 rfl rfl ?_
      refine wh_iload_n (pc := 25) d_Lm_judge_25 rfl rfl ?_
      refine wh_icmp_lt (pc := 26) (tgt := 32) d_Lm_judge_26 (by decide) (fun c_26 => ?_) (fun c_26 => ?_)
      · rw [i_lt, i_le] at h1
        rw [i_lt] at c_21
        rw [i_lt] at c_26
        omega
      · refine wh_bipush (pc := 29) (v := (-2)) d_Lm_judge_29 (by decide) ?_
        refine wh_iret (pc := 31) d_Lm_judge_31 rfl ?_
        exact ⟨_, rfl, FC.rf h, hm.symm⟩
  have hlc := lane_cp hw5 hm6
  have h1a : ¬ t < 0 := fun z => h1 (Or.inl z)
  have h1b : t < powN 100 n := by rw [i_lt]; rw [i_lt, i_le] at h1; omega
  obtain ⟨rr, hrr, rfl⟩ : ∃ rr, rr < 2 ^ 31 ∧ t = nI rr := by
    rw [i_lt, i_0] at h1a
    rw [i_lt, pow_100 n (by omega), nI_toInt (by omega)] at h1b
    obtain ⟨r, e1, e2⟩ := nI_back (x := t) (by omega) (n := 100000000) (by omega) (by decide)
    exact ⟨r, by omega, e2⟩
  have hcr := cl_nI hrr
  have hj : judF (laneS h 2) (nI n) (nI rr) = jdN rr n n (laneS h 2) := by unfold judF; rw [if_neg h0, hcn, if_neg h1, hcr]
  refine wh_iload_n (pc := 0) d_Lm_judge_0 rfl rfl ?_
  refine wh_iconst (pc := 1) (v := 1) d_Lm_judge_1 (by decide) ?_
  refine wh_icmp_lt (pc := 2) (tgt := 10) d_Lm_judge_2 (by decide) (fun c_2 => absurd c_2 b2) (fun c_2 => ?_)
  refine wh_iload_n (pc := 5) d_Lm_judge_5 rfl rfl ?_
  refine wh_iconst (pc := 6) (v := 4) d_Lm_judge_6 (by decide) ?_
  refine wh_icmp_le (pc := 7) (tgt := 13) d_Lm_judge_7 (by decide) (fun c_7 => ?_) (fun c_7 => absurd b7 c_7)
  refine wh_bipush (pc := 13) (v := 100) d_Lm_judge_13 (by decide) ?_
  refine wh_iload_n (pc := 15) d_Lm_judge_15 rfl rfl ?_
  refine cs_Lm_172_d (pc := 16) rfl d_Lm_judge_16 ⟨⟨by decide, by decide⟩, rfl, rfl⟩ (c_power (by omega)) (Nat.le_of_ble_eq_true rfl) ?_
  refine wh_istore_n (pc := 19) (ls2 := [_, _, _, _, _, _, _]) d_Lm_judge_19 rfl (by decide) rfl rfl ?_
  refine wh_iload_n (pc := 20) d_Lm_judge_20 rfl rfl ?_
  refine wh_if_lt (pc := 21) (tgt := 29) d_Lm_judge_21 (by decide) (fun c_21 => absurd c_21 h1a) (fun c_21 => ?_)
  refine wh_iload_n (pc := 24) d_Lm_judge_24 rfl rfl ?_
  refine wh_iload_n (pc := 25) d_Lm_judge_25 rfl rfl ?_
  refine wh_icmp_lt (pc := 26) (tgt := 32) d_Lm_judge_26 (by decide) (fun c_26 => ?_) (fun c_26 => absurd h1b c_26)
  refine wh_aload_n (pc := 32) d_Lm_judge_32 rfl rfl ?_
  refine gf_Lm_24 (pc := 33) rfl d_Lm_judge_33 ?_
  refine wh_aload_n (pc := 36) d_Lm_judge_36 rfl rfl ?_
  refine gf_Lm_20 (pc := 37) rfl d_Lm_judge_37 ?_
  refine cv_Lm_72_d (pc := 40) (Or.inr rfl) rfl d_Lm_judge_40 ⟨⟨by decide, by decide⟩, rfl, rfl⟩ (s_copy (Or.inr rfl) (Or.inl rfl) (by decide)) (Nat.le_of_ble_eq_true rfl) ?_
  refine wh_iload_n (pc := 43) d_Lm_judge_43 rfl rfl ?_
  refine wh_istore (pc := 44) (ls2 := [_, _, _, _, _, _, _]) d_Lm_judge_44 (by decide) rfl rfl ?_
  refine wh_iconst (pc := 46) (v := 0) d_Lm_judge_46 (by decide) ?_
  refine wh_istore (pc := 47) (ls2 := [_, _, _, _, _, _, _]) d_Lm_judge_47 (by decide) rfl rfl ?_
  refine wh_eq (wh_loopR n (fun i => [some (.ref 0), some (.int (nI n)), some (.int (nI rr)), some (.int (powN 100 n)), some (.int (nI (100 ^ (n - i)))), some (.int (nI i)), none]) (fun i g => FC h g ∧ WFS (laneS g 10) ∧ judF (laneS h 2) (nI n) (nI rr) = jdN rr n (n - i) (laneS g 10)) ?_ ?_ 0 _ (Nat.zero_le _) ⟨fc_cp, by rw [hlc]; exact hF, by rw [hlc]; exact hj⟩) (by rw [Nat.sub_zero, ← pow_100 n (by omega)]; rfl) rfl rfl
  · intro g hI
    refine wh_iload (pc := 49) d_Lm_judge_49 rfl ?_
    refine wh_iload_n (pc := 51) d_Lm_judge_51 rfl rfl ?_
    refine wh_icmp_ge (pc := 52) (tgt := 106) d_Lm_judge_52 (by decide) (fun c_52 => ?_) (fun c_52 => absurd (nI_le (Nat.le_refl _) (by omega)) c_52)
    refine wh_bipush (pc := 106) (v := (-9)) d_Lm_judge_106 (by decide) ?_
    refine wh_iret (pc := 108) d_Lm_judge_108 rfl ?_
    exact ⟨_, rfl, hI.1, by rw [hI.2.2, Nat.sub_self]; rfl⟩
  · intro i g hi hI ih
    obtain ⟨hfc, hgF, hgE⟩ := hI
    have hle : 100 ^ (n - i) ≤ 100000000 := pow100_le (by omega)
    have hle2 : 100 ^ (n - 1 - i) ≤ 100000000 := pow100_le (by omega)
    have hpos : 0 < 100 ^ (n - 1 - i) := Nat.pos_of_ne_zero (by simp)
    have hb : nI (100 ^ (n - i)) / 100 = nI (100 ^ (n - 1 - i)) := by
      rw [show (100 : Int32) = nI 100 from rfl, pk_div (by omega) (by decide) (by decide), show n - i = n - 1 - i + 1 by omega, Nat.pow_succ, Nat.mul_div_cancel _ (by decide)]
    have hd : (rr / 100 ^ (n - 1 - i) % 100) < 100 := Nat.mod_lt _ (by decide)
    refine wh_iload (pc := 49) d_Lm_judge_49 rfl ?_
    refine wh_iload_n (pc := 51) d_Lm_judge_51 rfl rfl ?_
    refine wh_icmp_ge (pc := 52) (tgt := 106) d_Lm_judge_52 (by decide) (fun c_52 => absurd c_52 (nI_ge hi (by omega))) (fun c_52 => ?_)
    refine wh_iload (pc := 55) d_Lm_judge_55 rfl ?_
    refine wh_bipush (pc := 57) (v := 100) d_Lm_judge_57 (by decide) ?_
    refine wh_idiv (pc := 59) d_Lm_judge_59 (by decide) ?_
    rw [hb]
    refine wh_istore (pc := 60) (ls2 := [_, _, _, _, _, _, _]) d_Lm_judge_60 (by decide) rfl rfl ?_
    refine wh_iload (pc := 62) d_Lm_judge_62 rfl ?_
    refine wh_if_le (pc := 64) (tgt := 77) d_Lm_judge_64 (by decide) (fun c_64 => absurd c_64 (nI_nle hpos (by omega))) (fun c_64 => ?_)
    refine wh_iload_n (pc := 67) d_Lm_judge_67 rfl rfl ?_
    refine wh_iload (pc := 68) d_Lm_judge_68 rfl ?_
    refine wh_idiv (pc := 70) d_Lm_judge_70 (nI_ne0 hpos (by omega)) ?_
    refine wh_bipush (pc := 71) (v := 100) d_Lm_judge_71 (by decide) ?_
    refine wh_irem (pc := 73) d_Lm_judge_73 (by decide) ?_
    rw [dig_100 (by omega) hpos (by omega)]
    refine wh_goto (pc := 74) (tgt := 78) d_Lm_judge_74 (by decide) ?_
    refine wh_istore (pc := 78) (ls2 := [_, _, _, _, _, _, _]) d_Lm_judge_78 (by decide) rfl rfl ?_
    refine wh_aload_n (pc := 80) d_Lm_judge_80 rfl rfl ?_
    refine wh_iload (pc := 81) d_Lm_judge_81 rfl ?_
    refine wh_bipush (pc := 83) (v := 10) d_Lm_judge_83 (by decide) ?_
    refine wh_idiv (pc := 85) d_Lm_judge_85 (by decide) ?_
    refine wh_iload (pc := 86) d_Lm_judge_86 rfl ?_
    refine wh_bipush (pc := 88) (v := 10) d_Lm_judge_88 (by decide) ?_
    refine wh_irem (pc := 90) d_Lm_judge_90 (by decide) ?_
    rw [(dig_10 hd).2, (dig_10 hd).1]
    refine cv_Lm_189_i (pc := 91) rfl d_Lm_judge_91 ⟨⟨by decide, by decide⟩, rfl, rfl⟩ (c_did rfl hgF _ (by omega)) (Nat.le_of_ble_eq_true rfl) (fun h_91 x_91 e_91 => ?_)
    refine wh_if_ne (pc := 94) (tgt := 100) d_Lm_judge_94 (by decide) (fun c_94 => ?_) (fun c_94 => ?_)
    · refine wh_iinc (pc := 100) (ls2 := [_, _, _, _, _, _, _]) d_Lm_judge_100 rfl (nI_inc _) (by decide) rfl rfl ?_
      refine wh_goto (pc := 103) (tgt := 49) d_Lm_judge_103 (by decide) ?_
      refine wh_drop (i := 6) (ls2 := [_, _, _, _, _, _, _]) rfl ?_
      rcases e_91.2 with z | z
      · refine wh_eq (ih _ ⟨hfc.tr e_91.1, by rw [z.2.2]; exact do_wf hgF (by omega) z.1, by rw [hgE, jd_y hi z.1, z.2.2]⟩) ?_ rfl rfl
        rw [show n - 1 - i = n - (i + 1) by omega]
      · exact absurd z.2 c_94
    · refine wh_iload (pc := 97) d_Lm_judge_97 rfl ?_
      refine wh_iret (pc := 99) d_Lm_judge_99 rfl ?_
      rcases e_91.2 with z | z
      · exact absurd (z.2.1.symm.trans c_94) (by decide)
      · exact ⟨_, rfl, hfc.tr e_91.1, by rw [hgE, jd_n hi z.1]⟩
theorem m_does0 {l : Launch} {D : va_G} {base : Nat} {h : Hp} {S : St} (hS : pageS h 49 = S) (hF : WFS S)  : SD l D base M_Md_does [.ref 42, .int 0] h (some (.int 1)) (ntP h 49) := by
  refine SP.of [some (.ref 42), some (.int 0), none, none, none, none] (by decide) rfl (Nat.le_of_ble_eq_true rfl) ?_
  refine wh_iload_n (pc := 0) d_Md_does_0 rfl rfl ?_
  refine wh_bipush (pc := 1) (v := 10) d_Md_does_1 (by decide) ?_
  refine wh_idiv (pc := 3) d_Md_does_3 (by decide) ?_
  refine wh_istore_n (pc := 4) (ls2 := [_, _, _, _, _, _]) d_Md_does_4 rfl (by decide) rfl rfl ?_
  refine wh_iload_n (pc := 5) d_Md_does_5 rfl rfl ?_
  refine wh_bipush (pc := 6) (v := 10) d_Md_does_6 (by decide) ?_
  refine wh_irem (pc := 8) d_Md_does_8 (by decide) ?_
  refine wh_istore_n (pc := 9) (ls2 := [_, _, _, _, _, _]) d_Md_does_9 rfl (by decide) rfl rfl ?_
  refine wh_iload_n (pc := 10) d_Md_does_10 rfl rfl ?_
  refine wh_if_ne (pc := 11) (tgt := 25) d_Md_does_11 (by decide) (fun c_11 => absurd rfl c_11) (fun c_11 => ?_)
  refine wh_aload_n (pc := 14) d_Md_does_14 rfl rfl ?_
  refine wh_aload_n (pc := 15) d_Md_does_15 rfl rfl ?_
  refine gf_Md_28 (pc := 16) rfl d_Md_does_16 ?_
  refine cv_Md_177_d (pc := 19) rfl d_Md_does_19 ⟨⟨by decide, by decide⟩, rfl, rfl⟩ (m_night (Or.inr rfl) hS hF) (Nat.le_of_ble_eq_true rfl) ?_
  refine wh_pop (pc := 22) d_Md_does_22 rfl ?_
  refine wh_iconst (pc := 23) (v := 1) d_Md_does_23 (by decide) ?_
  refine wh_zret (pc := 24) d_Md_does_24 rfl rfl ?_
  exact ⟨rfl, rfl⟩
theorem m_does1 {l : Launch} {D : va_G} {base : Nat} {h : Hp} {S : St} (hS : pageS h 49 = S) (hF : WFS S) {k : Nat} (hk : k < 10) : SI l D base M_Md_does [.ref 42, .int (nI (10 * 1 + k))] h (fun g x => (canF S (nI k) 1 = 1 ∧ x = 1 ∧ k < nW S ∧ g = sI h 49 k (S 1 k + 1)) ∨ (canF S (nI k) 1 = 0 ∧ x = 0 ∧ g = h)) := by
  refine SP.of [some (.ref 42), some (.int (nI (10 * 1 + k))), none, none, none, none] (by decide) rfl (Nat.le_of_ble_eq_true rfl) ?_
  have hw5 := hF.1.1
  by_cases hkn : k < nW S
  · have hck := cl_nI (show k < 2 ^ 31 by omega)
    have e1 : gI h 49 (0 + nI k).toNatClampNeg = S 1 k := by rw [a0, hck, ← hS]; exact pa1 (by rw [hS]; exact hkn)
    have e2 : gI h 49 k = S 1 k := by rw [← hS]; exact pa1 (by rw [hS]; exact hkn)
    rcases can_two S (nI k) 1 with c | c
    · refine wh_iload_n (pc := 0) d_Md_does_0 rfl rfl ?_
      refine wh_bipush (pc := 1) (v := 10) d_Md_does_1 (by decide) ?_
      refine wh_idiv (pc := 3) d_Md_does_3 (by decide) ?_
      rw [(t10 (by omega) hk).1]
      refine wh_istore_n (pc := 4) (ls2 := [_, _, _, _, _, _]) d_Md_does_4 rfl (by decide) rfl rfl ?_
      refine wh_iload_n (pc := 5) d_Md_does_5 rfl rfl ?_
      refine wh_bipush (pc := 6) (v := 10) d_Md_does_6 (by decide) ?_
      refine wh_irem (pc := 8) d_Md_does_8 (by decide) ?_
      rw [(t10 (by omega) hk).2]
      refine wh_istore_n (pc := 9) (ls2 := [_, _, _, _, _, _]) d_Md_does_9 rfl (by decide) rfl rfl ?_
      refine wh_iload_n (pc := 10) d_Md_does_10 rfl rfl ?_
      refine wh_if_ne (pc := 11) (tgt := 25) d_Md_does_11 (by decide) (fun c_11 => ?_) (fun c_11 => absurd c_11 (nI_ne0 (by omega) (by omega)))
      refine wh_iload_n (pc := 25) d_Md_does_25 rfl rfl ?_
      refine wh_i2l (pc := 26) d_Md_does_26 ?_
      refine wh_lconst (pc := 27) (v := 1) d_Md_does_27 (by decide) ?_
      refine wh_ldc2 (pc := 28) d_Md_does_28 kc_Md_172 ?_
      refine cs_Md_69_d (pc := 31) rfl d_Md_does_31 ⟨⟨by decide, by decide⟩, rfl, rfl⟩ (m_in) (Nat.le_of_ble_eq_true rfl) ?_
      refine wh_if_eq (pc := 34) (tgt := 107) d_Md_does_34 (by decide) (fun c_34 => absurd c_34 (by decide)) (fun c_34 => ?_)
      refine wh_iload_n (pc := 37) d_Md_does_37 rfl rfl ?_
      refine wh_iconst (pc := 38) (v := 1) d_Md_does_38 (by decide) ?_
      refine wh_icmp_ne (pc := 39) (tgt := 46) d_Md_does_39 (by decide) (fun c_39 => absurd rfl c_39) (fun c_39 => ?_)
      refine wh_iconst (pc := 42) (v := 1) d_Md_does_42 (by decide) ?_
      refine wh_goto (pc := 43) (tgt := 47) d_Md_does_43 (by decide) ?_
      refine wh_istore (pc := 47) (ls2 := [_, _, _, _, _, _]) d_Md_does_47 (by decide) rfl rfl ?_
      refine wh_aload_n (pc := 49) d_Md_does_49 rfl rfl ?_
      refine wh_iload_n (pc := 50) d_Md_does_50 rfl rfl ?_
      refine cv_Md_157_d (pc := 51) rfl d_Md_does_51 ⟨⟨by decide, by decide⟩, rfl, rfl⟩ (m_noW (n := nW S) (by rw [← hS]; exact pf_w (by rw [hS]; exact hF)) (by omega)) (Nat.le_of_ble_eq_true rfl) ?_
      refine wh_if_ne (pc := 54) (tgt := 83) d_Md_does_54 (by decide) (fun c_54 => absurd (bN_k hkn (by omega)) c_54) (fun c_54 => ?_)
      refine wh_aload_n (pc := 57) d_Md_does_57 rfl rfl ?_
      refine gf_Md_28 (pc := 58) rfl d_Md_does_58 ?_
      refine wh_iconst (pc := 61) (v := 0) d_Md_does_61 (by decide) ?_
      refine wh_iload_n (pc := 62) d_Md_does_62 rfl rfl ?_
      refine wh_iadd (pc := 63) d_Md_does_63 ?_
      refine wh_iald (pc := 64) d_Md_does_64 rfl (by rw [a0]; exact in_nI (show k < 24 by omega) (by omega)) ?_
      refine wh_iload (pc := 65) d_Md_does_65 rfl ?_
      refine wh_iadd (pc := 67) d_Md_does_67 ?_
      rw [e1]
      refine wh_i2l (pc := 68) d_Md_does_68 ?_
      refine wh_lconst (pc := 69) (v := 0) d_Md_does_69 (by decide) ?_
      refine wh_ldc2 (pc := 70) d_Md_does_70 kc_Md_164 ?_
      refine cs_Md_69_d (pc := 73) rfl d_Md_does_73 ⟨⟨by decide, by decide⟩, rfl, rfl⟩ (m_in) (Nat.le_of_ble_eq_true rfl) ?_
      refine wh_if_eq (pc := 76) (tgt := 83) d_Md_does_76 (by decide) (fun c_76 => ?_) (fun c_76 => absurd ((inL (S 1 k + 1) 0 9 rfl rfl).mpr ((can_in hkn hw5).mp c)) c_76)
      refine wh_iconst (pc := 83) (v := 0) d_Md_does_83 (by decide) ?_
      refine wh_istore (pc := 84) (ls2 := [_, _, _, _, _, _]) d_Md_does_84 (by decide) rfl rfl ?_
      refine wh_iload (pc := 86) d_Md_does_86 rfl ?_
      refine wh_if_eq (pc := 88) (tgt := 104) d_Md_does_88 (by decide) (fun c_88 => ?_) (fun c_88 => absurd (by decide) c_88)
      refine wh_iload (pc := 104) d_Md_does_104 rfl ?_
      refine wh_zret (pc := 106) d_Md_does_106 rfl rfl ?_
      exact ⟨_, rfl, Or.inr ⟨c, rfl, rfl⟩⟩
    · refine wh_iload_n (pc := 0) d_Md_does_0 rfl rfl ?_
      refine wh_bipush (pc := 1) (v := 10) d_Md_does_1 (by decide) ?_
      refine wh_idiv (pc := 3) d_Md_does_3 (by decide) ?_
      rw [(t10 (by omega) hk).1]
      refine wh_istore_n (pc := 4) (ls2 := [_, _, _, _, _, _]) d_Md_does_4 rfl (by decide) rfl rfl ?_
      refine wh_iload_n (pc := 5) d_Md_does_5 rfl rfl ?_
      refine wh_bipush (pc := 6) (v := 10) d_Md_does_6 (by decide) ?_
      refine wh_irem (pc := 8) d_Md_does_8 (by decide) ?_
      rw [(t10 (by omega) hk).2]
      refine wh_istore_n (pc := 9) (ls2 := [_, _, _, _, _, _]) d_Md_does_9 rfl (by decide) rfl rfl ?_
      refine wh_iload_n (pc := 10) d_Md_does_10 rfl rfl ?_
      refine wh_if_ne (pc := 11) (tgt := 25) d_Md_does_11 (by decide) (fun c_11 => ?_) (fun c_11 => absurd c_11 (nI_ne0 (by omega) (by omega)))
      refine wh_iload_n (pc := 25) d_Md_does_25 rfl rfl ?_
      refine wh_i2l (pc := 26) d_Md_does_26 ?_
      refine wh_lconst (pc := 27) (v := 1) d_Md_does_27 (by decide) ?_
      refine wh_ldc2 (pc := 28) d_Md_does_28 kc_Md_172 ?_
      refine cs_Md_69_d (pc := 31) rfl d_Md_does_31 ⟨⟨by decide, by decide⟩, rfl, rfl⟩ (m_in) (Nat.le_of_ble_eq_true rfl) ?_
      refine wh_if_eq (pc := 34) (tgt := 107) d_Md_does_34 (by decide) (fun c_34 => absurd c_34 (by decide)) (fun c_34 => ?_)
      refine wh_iload_n (pc := 37) d_Md_does_37 rfl rfl ?_
      refine wh_iconst (pc := 38) (v := 1) d_Md_does_38 (by decide) ?_
      refine wh_icmp_ne (pc := 39) (tgt := 46) d_Md_does_39 (by decide) (fun c_39 => absurd rfl c_39) (fun c_39 => ?_)
      refine wh_iconst (pc := 42) (v := 1) d_Md_does_42 (by decide) ?_
      refine wh_goto (pc := 43) (tgt := 47) d_Md_does_43 (by decide) ?_
      refine wh_istore (pc := 47) (ls2 := [_, _, _, _, _, _]) d_Md_does_47 (by decide) rfl rfl ?_
      refine wh_aload_n (pc := 49) d_Md_does_49 rfl rfl ?_
      refine wh_iload_n (pc := 50) d_Md_does_50 rfl rfl ?_
      refine cv_Md_157_d (pc := 51) rfl d_Md_does_51 ⟨⟨by decide, by decide⟩, rfl, rfl⟩ (m_noW (n := nW S) (by rw [← hS]; exact pf_w (by rw [hS]; exact hF)) (by omega)) (Nat.le_of_ble_eq_true rfl) ?_
      refine wh_if_ne (pc := 54) (tgt := 83) d_Md_does_54 (by decide) (fun c_54 => absurd (bN_k hkn (by omega)) c_54) (fun c_54 => ?_)
      refine wh_aload_n (pc := 57) d_Md_does_57 rfl rfl ?_
      refine gf_Md_28 (pc := 58) rfl d_Md_does_58 ?_
      refine wh_iconst (pc := 61) (v := 0) d_Md_does_61 (by decide) ?_
      refine wh_iload_n (pc := 62) d_Md_does_62 rfl rfl ?_
      refine wh_iadd (pc := 63) d_Md_does_63 ?_
      refine wh_iald (pc := 64) d_Md_does_64 rfl (by rw [a0]; exact in_nI (show k < 24 by omega) (by omega)) ?_
      refine wh_iload (pc := 65) d_Md_does_65 rfl ?_
      refine wh_iadd (pc := 67) d_Md_does_67 ?_
      rw [e1]
      refine wh_i2l (pc := 68) d_Md_does_68 ?_
      refine wh_lconst (pc := 69) (v := 0) d_Md_does_69 (by decide) ?_
      refine wh_ldc2 (pc := 70) d_Md_does_70 kc_Md_164 ?_
      refine cs_Md_69_d (pc := 73) rfl d_Md_does_73 ⟨⟨by decide, by decide⟩, rfl, rfl⟩ (m_in) (Nat.le_of_ble_eq_true rfl) ?_
      refine wh_if_eq (pc := 76) (tgt := 83) d_Md_does_76 (by decide) (fun c_76 => absurd c_76 (fun z => absurd ((can_in hkn hw5).mpr ((inL (S 1 k + 1) 0 9 rfl rfl).mp z)) (by rw [c]; decide))) (fun c_76 => ?_)
      refine wh_iconst (pc := 79) (v := 1) d_Md_does_79 (by decide) ?_
      refine wh_goto (pc := 80) (tgt := 84) d_Md_does_80 (by decide) ?_
      refine wh_istore (pc := 84) (ls2 := [_, _, _, _, _, _]) d_Md_does_84 (by decide) rfl rfl ?_
      refine wh_iload (pc := 86) d_Md_does_86 rfl ?_
      refine wh_if_eq (pc := 88) (tgt := 104) d_Md_does_88 (by decide) (fun c_88 => absurd c_88 (by decide)) (fun c_88 => ?_)
      refine wh_aload_n (pc := 91) d_Md_does_91 rfl rfl ?_
      refine gf_Md_28 (pc := 92) rfl d_Md_does_92 ?_
      refine wh_iconst (pc := 95) (v := 0) d_Md_does_95 (by decide) ?_
      refine wh_iload_n (pc := 96) d_Md_does_96 rfl rfl ?_
      refine wh_iadd (pc := 97) d_Md_does_97 ?_
      refine wh_dup2 (pc := 98) d_Md_does_98 rfl rfl ?_
      refine wh_iald (pc := 99) d_Md_does_99 rfl (by rw [a0]; exact in_nI (show k < 24 by omega) (by omega)) ?_
      refine wh_iload (pc := 100) d_Md_does_100 rfl ?_
      refine wh_iadd (pc := 102) d_Md_does_102 ?_
      rw [e1]
      refine wh_iast (pc := 103) d_Md_does_103 rfl (by rw [a0]; exact in_nI (show k < 24 by omega) (by omega)) ?_
      refine wh_iload (pc := 104) d_Md_does_104 rfl ?_
      refine wh_zret (pc := 106) d_Md_does_106 rfl rfl ?_
      exact ⟨_, rfl, Or.inl ⟨c, rfl, hkn, by rw [a0, hck]⟩⟩
  · refine wh_iload_n (pc := 0) d_Md_does_0 rfl rfl ?_
    refine wh_bipush (pc := 1) (v := 10) d_Md_does_1 (by decide) ?_
    refine wh_idiv (pc := 3) d_Md_does_3 (by decide) ?_
    rw [(t10 (by omega) hk).1]
    refine wh_istore_n (pc := 4) (ls2 := [_, _, _, _, _, _]) d_Md_does_4 rfl (by decide) rfl rfl ?_
    refine wh_iload_n (pc := 5) d_Md_does_5 rfl rfl ?_
    refine wh_bipush (pc := 6) (v := 10) d_Md_does_6 (by decide) ?_
    refine wh_irem (pc := 8) d_Md_does_8 (by decide) ?_
    rw [(t10 (by omega) hk).2]
    refine wh_istore_n (pc := 9) (ls2 := [_, _, _, _, _, _]) d_Md_does_9 rfl (by decide) rfl rfl ?_
    refine wh_iload_n (pc := 10) d_Md_does_10 rfl rfl ?_
    refine wh_if_ne (pc := 11) (tgt := 25) d_Md_does_11 (by decide) (fun c_11 => ?_) (fun c_11 => absurd c_11 (nI_ne0 (by omega) (by omega)))
    refine wh_iload_n (pc := 25) d_Md_does_25 rfl rfl ?_
    refine wh_i2l (pc := 26) d_Md_does_26 ?_
    refine wh_lconst (pc := 27) (v := 1) d_Md_does_27 (by decide) ?_
    refine wh_ldc2 (pc := 28) d_Md_does_28 kc_Md_172 ?_
    refine cs_Md_69_d (pc := 31) rfl d_Md_does_31 ⟨⟨by decide, by decide⟩, rfl, rfl⟩ (m_in) (Nat.le_of_ble_eq_true rfl) ?_
    refine wh_if_eq (pc := 34) (tgt := 107) d_Md_does_34 (by decide) (fun c_34 => absurd c_34 (by decide)) (fun c_34 => ?_)
    refine wh_iload_n (pc := 37) d_Md_does_37 rfl rfl ?_
    refine wh_iconst (pc := 38) (v := 1) d_Md_does_38 (by decide) ?_
    refine wh_icmp_ne (pc := 39) (tgt := 46) d_Md_does_39 (by decide) (fun c_39 => absurd rfl c_39) (fun c_39 => ?_)
    refine wh_iconst (pc := 42) (v := 1) d_Md_does_42 (by decide) ?_
    refine wh_goto (pc := 43) (tgt := 47) d_Md_does_43 (by decide) ?_
    refine wh_istore (pc := 47) (ls2 := [_, _, _, _, _, _]) d_Md_does_47 (by decide) rfl rfl ?_
    refine wh_aload_n (pc := 49) d_Md_does_49 rfl rfl ?_
    refine wh_iload_n (pc := 50) d_Md_does_50 rfl rfl ?_
    refine cv_Md_157_d (pc := 51) rfl d_Md_does_51 ⟨⟨by decide, by decide⟩, rfl, rfl⟩ (m_noW (n := nW S) (by rw [← hS]; exact pf_w (by rw [hS]; exact hF)) (by omega)) (Nat.le_of_ble_eq_true rfl) ?_
    refine wh_if_ne (pc := 54) (tgt := 83) d_Md_does_54 (by decide) (fun c_54 => ?_) (fun c_54 => absurd c_54 (bN_n (bI_no (Or.inr (nI_le (by omega) (by omega))))))
    refine wh_iconst (pc := 83) (v := 0) d_Md_does_83 (by decide) ?_
    refine wh_istore (pc := 84) (ls2 := [_, _, _, _, _, _]) d_Md_does_84 (by decide) rfl rfl ?_
    refine wh_iload (pc := 86) d_Md_does_86 rfl ?_
    refine wh_if_eq (pc := 88) (tgt := 104) d_Md_does_88 (by decide) (fun c_88 => ?_) (fun c_88 => absurd (by decide) c_88)
    refine wh_iload (pc := 104) d_Md_does_104 rfl ?_
    refine wh_zret (pc := 106) d_Md_does_106 rfl rfl ?_
    exact ⟨_, rfl, Or.inr ⟨can_no (by omega) hkn, rfl, rfl⟩⟩
theorem m_does2 {l : Launch} {D : va_G} {base : Nat} {h : Hp} {S : St} (hS : pageS h 49 = S) (hF : WFS S) {k : Nat} (hk : k < 10) : SI l D base M_Md_does [.ref 42, .int (nI (10 * 2 + k))] h (fun g x => (canF S (nI k) (-1) = 1 ∧ x = 1 ∧ k < nW S ∧ g = sI h 49 k (S 1 k + (-1))) ∨ (canF S (nI k) (-1) = 0 ∧ x = 0 ∧ g = h)) := by
  refine SP.of [some (.ref 42), some (.int (nI (10 * 2 + k))), none, none, none, none] (by decide) rfl (Nat.le_of_ble_eq_true rfl) ?_
  have hw5 := hF.1.1
  by_cases hkn : k < nW S
  · have hck := cl_nI (show k < 2 ^ 31 by omega)
    have e1 : gI h 49 (0 + nI k).toNatClampNeg = S 1 k := by rw [a0, hck, ← hS]; exact pa1 (by rw [hS]; exact hkn)
    have e2 : gI h 49 k = S 1 k := by rw [← hS]; exact pa1 (by rw [hS]; exact hkn)
    rcases can_two S (nI k) (-1) with c | c
    · refine wh_iload_n (pc := 0) d_Md_does_0 rfl rfl ?_
      refine wh_bipush (pc := 1) (v := 10) d_Md_does_1 (by decide) ?_
      refine wh_idiv (pc := 3) d_Md_does_3 (by decide) ?_
      rw [(t10 (by omega) hk).1]
      refine wh_istore_n (pc := 4) (ls2 := [_, _, _, _, _, _]) d_Md_does_4 rfl (by decide) rfl rfl ?_
      refine wh_iload_n (pc := 5) d_Md_does_5 rfl rfl ?_
      refine wh_bipush (pc := 6) (v := 10) d_Md_does_6 (by decide) ?_
      refine wh_irem (pc := 8) d_Md_does_8 (by decide) ?_
      rw [(t10 (by omega) hk).2]
      refine wh_istore_n (pc := 9) (ls2 := [_, _, _, _, _, _]) d_Md_does_9 rfl (by decide) rfl rfl ?_
      refine wh_iload_n (pc := 10) d_Md_does_10 rfl rfl ?_
      refine wh_if_ne (pc := 11) (tgt := 25) d_Md_does_11 (by decide) (fun c_11 => ?_) (fun c_11 => absurd c_11 (nI_ne0 (by omega) (by omega)))
      refine wh_iload_n (pc := 25) d_Md_does_25 rfl rfl ?_
      refine wh_i2l (pc := 26) d_Md_does_26 ?_
      refine wh_lconst (pc := 27) (v := 1) d_Md_does_27 (by decide) ?_
      refine wh_ldc2 (pc := 28) d_Md_does_28 kc_Md_172 ?_
      refine cs_Md_69_d (pc := 31) rfl d_Md_does_31 ⟨⟨by decide, by decide⟩, rfl, rfl⟩ (m_in) (Nat.le_of_ble_eq_true rfl) ?_
      refine wh_if_eq (pc := 34) (tgt := 107) d_Md_does_34 (by decide) (fun c_34 => absurd c_34 (by decide)) (fun c_34 => ?_)
      refine wh_iload_n (pc := 37) d_Md_does_37 rfl rfl ?_
      refine wh_iconst (pc := 38) (v := 1) d_Md_does_38 (by decide) ?_
      refine wh_icmp_ne (pc := 39) (tgt := 46) d_Md_does_39 (by decide) (fun c_39 => ?_) (fun c_39 => absurd c_39 (by decide))
      refine wh_iconst (pc := 46) (v := (-1)) d_Md_does_46 (by decide) ?_
      refine wh_istore (pc := 47) (ls2 := [_, _, _, _, _, _]) d_Md_does_47 (by decide) rfl rfl ?_
      refine wh_aload_n (pc := 49) d_Md_does_49 rfl rfl ?_
      refine wh_iload_n (pc := 50) d_Md_does_50 rfl rfl ?_
      refine cv_Md_157_d (pc := 51) rfl d_Md_does_51 ⟨⟨by decide, by decide⟩, rfl, rfl⟩ (m_noW (n := nW S) (by rw [← hS]; exact pf_w (by rw [hS]; exact hF)) (by omega)) (Nat.le_of_ble_eq_true rfl) ?_
      refine wh_if_ne (pc := 54) (tgt := 83) d_Md_does_54 (by decide) (fun c_54 => absurd (bN_k hkn (by omega)) c_54) (fun c_54 => ?_)
      refine wh_aload_n (pc := 57) d_Md_does_57 rfl rfl ?_
      refine gf_Md_28 (pc := 58) rfl d_Md_does_58 ?_
      refine wh_iconst (pc := 61) (v := 0) d_Md_does_61 (by decide) ?_
      refine wh_iload_n (pc := 62) d_Md_does_62 rfl rfl ?_
      refine wh_iadd (pc := 63) d_Md_does_63 ?_
      refine wh_iald (pc := 64) d_Md_does_64 rfl (by rw [a0]; exact in_nI (show k < 24 by omega) (by omega)) ?_
      refine wh_iload (pc := 65) d_Md_does_65 rfl ?_
      refine wh_iadd (pc := 67) d_Md_does_67 ?_
      rw [e1]
      refine wh_i2l (pc := 68) d_Md_does_68 ?_
      refine wh_lconst (pc := 69) (v := 0) d_Md_does_69 (by decide) ?_
      refine wh_ldc2 (pc := 70) d_Md_does_70 kc_Md_164 ?_
      refine cs_Md_69_d (pc := 73) rfl d_Md_does_73 ⟨⟨by decide, by decide⟩, rfl, rfl⟩ (m_in) (Nat.le_of_ble_eq_true rfl) ?_
      refine wh_if_eq (pc := 76) (tgt := 83) d_Md_does_76 (by decide) (fun c_76 => ?_) (fun c_76 => absurd ((inL (S 1 k + (-1)) 0 9 rfl rfl).mpr ((can_in hkn hw5).mp c)) c_76)
      refine wh_iconst (pc := 83) (v := 0) d_Md_does_83 (by decide) ?_
      refine wh_istore (pc := 84) (ls2 := [_, _, _, _, _, _]) d_Md_does_84 (by decide) rfl rfl ?_
      refine wh_iload (pc := 86) d_Md_does_86 rfl ?_
      refine wh_if_eq (pc := 88) (tgt := 104) d_Md_does_88 (by decide) (fun c_88 => ?_) (fun c_88 => absurd (by decide) c_88)
      refine wh_iload (pc := 104) d_Md_does_104 rfl ?_
      refine wh_zret (pc := 106) d_Md_does_106 rfl rfl ?_
      exact ⟨_, rfl, Or.inr ⟨c, rfl, rfl⟩⟩
    · refine wh_iload_n (pc := 0) d_Md_does_0 rfl rfl ?_
      refine wh_bipush (pc := 1) (v := 10) d_Md_does_1 (by decide) ?_
      refine wh_idiv (pc := 3) d_Md_does_3 (by decide) ?_
      rw [(t10 (by omega) hk).1]
      refine wh_istore_n (pc := 4) (ls2 := [_, _, _, _, _, _]) d_Md_does_4 rfl (by decide) rfl rfl ?_
      refine wh_iload_n (pc := 5) d_Md_does_5 rfl rfl ?_
      refine wh_bipush (pc := 6) (v := 10) d_Md_does_6 (by decide) ?_
      refine wh_irem (pc := 8) d_Md_does_8 (by decide) ?_
      rw [(t10 (by omega) hk).2]
      refine wh_istore_n (pc := 9) (ls2 := [_, _, _, _, _, _]) d_Md_does_9 rfl (by decide) rfl rfl ?_
      refine wh_iload_n (pc := 10) d_Md_does_10 rfl rfl ?_
      refine wh_if_ne (pc := 11) (tgt := 25) d_Md_does_11 (by decide) (fun c_11 => ?_) (fun c_11 => absurd c_11 (nI_ne0 (by omega) (by omega)))
      refine wh_iload_n (pc := 25) d_Md_does_25 rfl rfl ?_
      refine wh_i2l (pc := 26) d_Md_does_26 ?_
      refine wh_lconst (pc := 27) (v := 1) d_Md_does_27 (by decide) ?_
      refine wh_ldc2 (pc := 28) d_Md_does_28 kc_Md_172 ?_
      refine cs_Md_69_d (pc := 31) rfl d_Md_does_31 ⟨⟨by decide, by decide⟩, rfl, rfl⟩ (m_in) (Nat.le_of_ble_eq_true rfl) ?_
      refine wh_if_eq (pc := 34) (tgt := 107) d_Md_does_34 (by decide) (fun c_34 => absurd c_34 (by decide)) (fun c_34 => ?_)
      refine wh_iload_n (pc := 37) d_Md_does_37 rfl rfl ?_
      refine wh_iconst (pc := 38) (v := 1) d_Md_does_38 (by decide) ?_
      refine wh_icmp_ne (pc := 39) (tgt := 46) d_Md_does_39 (by decide) (fun c_39 => ?_) (fun c_39 => absurd c_39 (by decide))
      refine wh_iconst (pc := 46) (v := (-1)) d_Md_does_46 (by decide) ?_
      refine wh_istore (pc := 47) (ls2 := [_, _, _, _, _, _]) d_Md_does_47 (by decide) rfl rfl ?_
      refine wh_aload_n (pc := 49) d_Md_does_49 rfl rfl ?_
      refine wh_iload_n (pc := 50) d_Md_does_50 rfl rfl ?_
      refine cv_Md_157_d (pc := 51) rfl d_Md_does_51 ⟨⟨by decide, by decide⟩, rfl, rfl⟩ (m_noW (n := nW S) (by rw [← hS]; exact pf_w (by rw [hS]; exact hF)) (by omega)) (Nat.le_of_ble_eq_true rfl) ?_
      refine wh_if_ne (pc := 54) (tgt := 83) d_Md_does_54 (by decide) (fun c_54 => absurd (bN_k hkn (by omega)) c_54) (fun c_54 => ?_)
      refine wh_aload_n (pc := 57) d_Md_does_57 rfl rfl ?_
      refine gf_Md_28 (pc := 58) rfl d_Md_does_58 ?_
      refine wh_iconst (pc := 61) (v := 0) d_Md_does_61 (by decide) ?_
      refine wh_iload_n (pc := 62) d_Md_does_62 rfl rfl ?_
      refine wh_iadd (pc := 63) d_Md_does_63 ?_
      refine wh_iald (pc := 64) d_Md_does_64 rfl (by rw [a0]; exact in_nI (show k < 24 by omega) (by omega)) ?_
      refine wh_iload (pc := 65) d_Md_does_65 rfl ?_
      refine wh_iadd (pc := 67) d_Md_does_67 ?_
      rw [e1]
      refine wh_i2l (pc := 68) d_Md_does_68 ?_
      refine wh_lconst (pc := 69) (v := 0) d_Md_does_69 (by decide) ?_
      refine wh_ldc2 (pc := 70) d_Md_does_70 kc_Md_164 ?_
      refine cs_Md_69_d (pc := 73) rfl d_Md_does_73 ⟨⟨by decide, by decide⟩, rfl, rfl⟩ (m_in) (Nat.le_of_ble_eq_true rfl) ?_
      refine wh_if_eq (pc := 76) (tgt := 83) d_Md_does_76 (by decide) (fun c_76 => absurd c_76 (fun z => absurd ((can_in hkn hw5).mpr ((inL (S 1 k + (-1)) 0 9 rfl rfl).mp z)) (by rw [c]; decide))) (fun c_76 => ?_)
      refine wh_iconst (pc := 79) (v := 1) d_Md_does_79 (by decide) ?_
      refine wh_goto (pc := 80) (tgt := 84) d_Md_does_80 (by decide) ?_
      refine wh_istore (pc := 84) (ls2 := [_, _, _, _, _, _]) d_Md_does_84 (by decide) rfl rfl ?_
      refine wh_iload (pc := 86) d_Md_does_86 rfl ?_
      refine wh_if_eq (pc := 88) (tgt := 104) d_Md_does_88 (by decide) (fun c_88 => absurd c_88 (by decide)) (fun c_88 => ?_)
      refine wh_aload_n (pc := 91) d_Md_does_91 rfl rfl ?_
      refine gf_Md_28 (pc := 92) rfl d_Md_does_92 ?_
      refine wh_iconst (pc := 95) (v := 0) d_Md_does_95 (by decide) ?_
      refine wh_iload_n (pc := 96) d_Md_does_96 rfl rfl ?_
      refine wh_iadd (pc := 97) d_Md_does_97 ?_
      refine wh_dup2 (pc := 98) d_Md_does_98 rfl rfl ?_
      refine wh_iald (pc := 99) d_Md_does_99 rfl (by rw [a0]; exact in_nI (show k < 24 by omega) (by omega)) ?_
      refine wh_iload (pc := 100) d_Md_does_100 rfl ?_
      refine wh_iadd (pc := 102) d_Md_does_102 ?_
      rw [e1]
      refine wh_iast (pc := 103) d_Md_does_103 rfl (by rw [a0]; exact in_nI (show k < 24 by omega) (by omega)) ?_
      refine wh_iload (pc := 104) d_Md_does_104 rfl ?_
      refine wh_zret (pc := 106) d_Md_does_106 rfl rfl ?_
      exact ⟨_, rfl, Or.inl ⟨c, rfl, hkn, by rw [a0, hck]⟩⟩
  · refine wh_iload_n (pc := 0) d_Md_does_0 rfl rfl ?_
    refine wh_bipush (pc := 1) (v := 10) d_Md_does_1 (by decide) ?_
    refine wh_idiv (pc := 3) d_Md_does_3 (by decide) ?_
    rw [(t10 (by omega) hk).1]
    refine wh_istore_n (pc := 4) (ls2 := [_, _, _, _, _, _]) d_Md_does_4 rfl (by decide) rfl rfl ?_
    refine wh_iload_n (pc := 5) d_Md_does_5 rfl rfl ?_
    refine wh_bipush (pc := 6) (v := 10) d_Md_does_6 (by decide) ?_
    refine wh_irem (pc := 8) d_Md_does_8 (by decide) ?_
    rw [(t10 (by omega) hk).2]
    refine wh_istore_n (pc := 9) (ls2 := [_, _, _, _, _, _]) d_Md_does_9 rfl (by decide) rfl rfl ?_
    refine wh_iload_n (pc := 10) d_Md_does_10 rfl rfl ?_
    refine wh_if_ne (pc := 11) (tgt := 25) d_Md_does_11 (by decide) (fun c_11 => ?_) (fun c_11 => absurd c_11 (nI_ne0 (by omega) (by omega)))
    refine wh_iload_n (pc := 25) d_Md_does_25 rfl rfl ?_
    refine wh_i2l (pc := 26) d_Md_does_26 ?_
    refine wh_lconst (pc := 27) (v := 1) d_Md_does_27 (by decide) ?_
    refine wh_ldc2 (pc := 28) d_Md_does_28 kc_Md_172 ?_
    refine cs_Md_69_d (pc := 31) rfl d_Md_does_31 ⟨⟨by decide, by decide⟩, rfl, rfl⟩ (m_in) (Nat.le_of_ble_eq_true rfl) ?_
    refine wh_if_eq (pc := 34) (tgt := 107) d_Md_does_34 (by decide) (fun c_34 => absurd c_34 (by decide)) (fun c_34 => ?_)
    refine wh_iload_n (pc := 37) d_Md_does_37 rfl rfl ?_
    refine wh_iconst (pc := 38) (v := 1) d_Md_does_38 (by decide) ?_
    refine wh_icmp_ne (pc := 39) (tgt := 46) d_Md_does_39 (by decide) (fun c_39 => ?_) (fun c_39 => absurd c_39 (by decide))
    refine wh_iconst (pc := 46) (v := (-1)) d_Md_does_46 (by decide) ?_
    refine wh_istore (pc := 47) (ls2 := [_, _, _, _, _, _]) d_Md_does_47 (by decide) rfl rfl ?_
    refine wh_aload_n (pc := 49) d_Md_does_49 rfl rfl ?_
    refine wh_iload_n (pc := 50) d_Md_does_50 rfl rfl ?_
    refine cv_Md_157_d (pc := 51) rfl d_Md_does_51 ⟨⟨by decide, by decide⟩, rfl, rfl⟩ (m_noW (n := nW S) (by rw [← hS]; exact pf_w (by rw [hS]; exact hF)) (by omega)) (Nat.le_of_ble_eq_true rfl) ?_
    refine wh_if_ne (pc := 54) (tgt := 83) d_Md_does_54 (by decide) (fun c_54 => ?_) (fun c_54 => absurd c_54 (bN_n (bI_no (Or.inr (nI_le (by omega) (by omega))))))
    refine wh_iconst (pc := 83) (v := 0) d_Md_does_83 (by decide) ?_
    refine wh_istore (pc := 84) (ls2 := [_, _, _, _, _, _]) d_Md_does_84 (by decide) rfl rfl ?_
    refine wh_iload (pc := 86) d_Md_does_86 rfl ?_
    refine wh_if_eq (pc := 88) (tgt := 104) d_Md_does_88 (by decide) (fun c_88 => ?_) (fun c_88 => absurd (by decide) c_88)
    refine wh_iload (pc := 104) d_Md_does_104 rfl ?_
    refine wh_zret (pc := 106) d_Md_does_106 rfl rfl ?_
    exact ⟨_, rfl, Or.inr ⟨can_no (by omega) hkn, rfl, rfl⟩⟩
theorem m_does3 {l : Launch} {D : va_G} {base : Nat} {h : Hp} {S : St} (hS : pageS h 49 = S) (hF : WFS S) {k : Nat} (hk : k < 10) : SI l D base M_Md_does [.ref 42, .int (nI (10 * 3 + k))] h (fun g x => FM h g ∧ ((k < 3 ∧ ¬ gI h 49 16 = nI k ∧ x = 1 ∧ g = sI h 49 16 (nI k)) ∨ (¬ (k < 3 ∧ ¬ gI h 49 16 = nI k) ∧ x = 0))) := by
  refine SP.of [some (.ref 42), some (.int (nI (10 * 3 + k))), none, none, none, none] (by decide) rfl (Nat.le_of_ble_eq_true rfl) ?_
  have f16 : ∀ v, FM h (sI h 49 16 v) := fun v => fm_sI (by unfold scM; omega)
  refine wh_iload_n (pc := 0) d_Md_does_0 rfl rfl ?_
  refine wh_bipush (pc := 1) (v := 10) d_Md_does_1 (by decide) ?_
  refine wh_idiv (pc := 3) d_Md_does_3 (by decide) ?_
  rw [(t10 (by omega) hk).1]
  refine wh_istore_n (pc := 4) (ls2 := [_, _, _, _, _, _]) d_Md_does_4 rfl (by decide) rfl rfl ?_
  refine wh_iload_n (pc := 5) d_Md_does_5 rfl rfl ?_
  refine wh_bipush (pc := 6) (v := 10) d_Md_does_6 (by decide) ?_
  refine wh_irem (pc := 8) d_Md_does_8 (by decide) ?_
  rw [(t10 (by omega) hk).2]
  refine wh_istore_n (pc := 9) (ls2 := [_, _, _, _, _, _]) d_Md_does_9 rfl (by decide) rfl rfl ?_
  refine wh_iload_n (pc := 10) d_Md_does_10 rfl rfl ?_
  refine wh_if_ne (pc := 11) (tgt := 25) d_Md_does_11 (by decide) (fun c_11 => ?_) (fun c_11 => absurd c_11 (nI_ne0 (by omega) (by omega)))
  refine wh_iload_n (pc := 25) d_Md_does_25 rfl rfl ?_
  refine wh_i2l (pc := 26) d_Md_does_26 ?_
  refine wh_lconst (pc := 27) (v := 1) d_Md_does_27 (by decide) ?_
  refine wh_ldc2 (pc := 28) d_Md_does_28 kc_Md_172 ?_
  refine cs_Md_69_d (pc := 31) rfl d_Md_does_31 ⟨⟨by decide, by decide⟩, rfl, rfl⟩ (m_in) (Nat.le_of_ble_eq_true rfl) ?_
  refine wh_if_eq (pc := 34) (tgt := 107) d_Md_does_34 (by decide) (fun c_34 => ?_) (fun c_34 => absurd (by decide) c_34)
  refine wh_iload_n (pc := 107) d_Md_does_107 rfl rfl ?_
  refine wh_iconst (pc := 108) (v := 3) d_Md_does_108 (by decide) ?_
  refine wh_icmp_ne (pc := 109) (tgt := 161) d_Md_does_109 (by decide) (fun c_109 => absurd rfl c_109) (fun c_109 => ?_)
  refine wh_iload_n (pc := 112) d_Md_does_112 rfl rfl ?_
  refine wh_iconst (pc := 113) (v := 3) d_Md_does_113 (by decide) ?_
  refine wh_icmp_ge (pc := 114) (tgt := 132) d_Md_does_114 (by decide) (fun c_114 => ?_) (fun c_114 => ?_)
  · refine wh_iconst (pc := 132) (v := 0) d_Md_does_132 (by decide) ?_
    refine wh_istore (pc := 133) (ls2 := [_, _, _, _, _, _]) d_Md_does_133 (by decide) rfl rfl ?_
    refine wh_aload_n (pc := 135) d_Md_does_135 rfl rfl ?_
    refine gf_Md_28 (pc := 136) rfl d_Md_does_136 ?_
    refine wh_bipush (pc := 139) (v := 16) d_Md_does_139 (by decide) ?_
    refine wh_iload (pc := 141) d_Md_does_141 rfl ?_
    refine wh_if_eq (pc := 143) (tgt := 150) d_Md_does_143 (by decide) (fun c_143 => ?_) (fun c_143 => absurd (by decide) c_143)
    refine wh_aload_n (pc := 150) d_Md_does_150 rfl rfl ?_
    refine gf_Md_28 (pc := 151) rfl d_Md_does_151 ?_
    refine wh_bipush (pc := 154) (v := 16) d_Md_does_154 (by decide) ?_
    refine wh_iald (pc := 156) d_Md_does_156 rfl (by first | exact in_nI (k := 16) (by decide) (by decide) | exact in_nI (k := 17) (by decide) (by decide)) ?_
    refine wh_iast (pc := 157) d_Md_does_157 rfl (by first | exact in_nI (k := 16) (by decide) (by decide) | exact in_nI (k := 17) (by decide) (by decide)) ?_
    refine wh_iload (pc := 158) d_Md_does_158 rfl ?_
    refine wh_zret (pc := 160) d_Md_does_160 rfl rfl ?_
    first
      | exact ⟨_, rfl, f16 _, Or.inr ⟨fun z => nI_ge (b := 3) z.1 (by decide) c_114, rfl⟩⟩
      | exact ⟨_, rfl, f16 _, Or.inr ⟨fun z => z.2 c_125, rfl⟩⟩
      | exact ⟨_, rfl, f16 _, Or.inl ⟨by by_cases z : k < 3; exact z; exact absurd (nI_le (a := 3) (b := k) (by omega) (by omega)) c_114, c_125, rfl, rfl⟩⟩
  · refine wh_aload_n (pc := 117) d_Md_does_117 rfl rfl ?_
    refine gf_Md_28 (pc := 118) rfl d_Md_does_118 ?_
    refine wh_bipush (pc := 121) (v := 16) d_Md_does_121 (by decide) ?_
    refine wh_iald (pc := 123) d_Md_does_123 rfl (by first | exact in_nI (k := 16) (by decide) (by decide) | exact in_nI (k := 17) (by decide) (by decide)) ?_
    refine wh_iload_n (pc := 124) d_Md_does_124 rfl rfl ?_
    refine wh_icmp_eq (pc := 125) (tgt := 132) d_Md_does_125 (by decide) (fun c_125 => ?_) (fun c_125 => ?_)
    · refine wh_iconst (pc := 132) (v := 0) d_Md_does_132 (by decide) ?_
      refine wh_istore (pc := 133) (ls2 := [_, _, _, _, _, _]) d_Md_does_133 (by decide) rfl rfl ?_
      refine wh_aload_n (pc := 135) d_Md_does_135 rfl rfl ?_
      refine gf_Md_28 (pc := 136) rfl d_Md_does_136 ?_
      refine wh_bipush (pc := 139) (v := 16) d_Md_does_139 (by decide) ?_
      refine wh_iload (pc := 141) d_Md_does_141 rfl ?_
      refine wh_if_eq (pc := 143) (tgt := 150) d_Md_does_143 (by decide) (fun c_143 => ?_) (fun c_143 => absurd (by decide) c_143)
      refine wh_aload_n (pc := 150) d_Md_does_150 rfl rfl ?_
      refine gf_Md_28 (pc := 151) rfl d_Md_does_151 ?_
      refine wh_bipush (pc := 154) (v := 16) d_Md_does_154 (by decide) ?_
      refine wh_iald (pc := 156) d_Md_does_156 rfl (by first | exact in_nI (k := 16) (by decide) (by decide) | exact in_nI (k := 17) (by decide) (by decide)) ?_
      refine wh_iast (pc := 157) d_Md_does_157 rfl (by first | exact in_nI (k := 16) (by decide) (by decide) | exact in_nI (k := 17) (by decide) (by decide)) ?_
      refine wh_iload (pc := 158) d_Md_does_158 rfl ?_
      refine wh_zret (pc := 160) d_Md_does_160 rfl rfl ?_
      first
        | exact ⟨_, rfl, f16 _, Or.inr ⟨fun z => nI_ge (b := 3) z.1 (by decide) c_114, rfl⟩⟩
        | exact ⟨_, rfl, f16 _, Or.inr ⟨fun z => z.2 c_125, rfl⟩⟩
        | exact ⟨_, rfl, f16 _, Or.inl ⟨by by_cases z : k < 3; exact z; exact absurd (nI_le (a := 3) (b := k) (by omega) (by omega)) c_114, c_125, rfl, rfl⟩⟩
    · refine wh_iconst (pc := 128) (v := 1) d_Md_does_128 (by decide) ?_
      refine wh_goto (pc := 129) (tgt := 133) d_Md_does_129 (by decide) ?_
      refine wh_istore (pc := 133) (ls2 := [_, _, _, _, _, _]) d_Md_does_133 (by decide) rfl rfl ?_
      refine wh_aload_n (pc := 135) d_Md_does_135 rfl rfl ?_
      refine gf_Md_28 (pc := 136) rfl d_Md_does_136 ?_
      refine wh_bipush (pc := 139) (v := 16) d_Md_does_139 (by decide) ?_
      refine wh_iload (pc := 141) d_Md_does_141 rfl ?_
      refine wh_if_eq (pc := 143) (tgt := 150) d_Md_does_143 (by decide) (fun c_143 => absurd c_143 (by decide)) (fun c_143 => ?_)
      refine wh_iload_n (pc := 146) d_Md_does_146 rfl rfl ?_
      refine wh_goto (pc := 147) (tgt := 157) d_Md_does_147 (by decide) ?_
      refine wh_iast (pc := 157) d_Md_does_157 rfl (by first | exact in_nI (k := 16) (by decide) (by decide) | exact in_nI (k := 17) (by decide) (by decide)) ?_
      refine wh_iload (pc := 158) d_Md_does_158 rfl ?_
      refine wh_zret (pc := 160) d_Md_does_160 rfl rfl ?_
      first
        | exact ⟨_, rfl, f16 _, Or.inr ⟨fun z => nI_ge (b := 3) z.1 (by decide) c_114, rfl⟩⟩
        | exact ⟨_, rfl, f16 _, Or.inr ⟨fun z => z.2 c_125, rfl⟩⟩
        | exact ⟨_, rfl, f16 _, Or.inl ⟨by by_cases z : k < 3; exact z; exact absurd (nI_le (a := 3) (b := k) (by omega) (by omega)) c_114, c_125, rfl, rfl⟩⟩
theorem m_does4 {l : Launch} {D : va_G} {base : Nat} {h : Hp} {S : St} (hS : pageS h 49 = S) (hF : WFS S) {k : Nat} (hk : k < 10) : SI l D base M_Md_does [.ref 42, .int (nI (10 * 4 + k))] h (fun g x => FM h g ∧ ((¬ gI h 49 17 = nI k ∧ x = 1 ∧ g = sI h 49 17 (nI k)) ∨ (gI h 49 17 = nI k ∧ x = 0))) := by
  refine SP.of [some (.ref 42), some (.int (nI (10 * 4 + k))), none, none, none, none] (by decide) rfl (Nat.le_of_ble_eq_true rfl) ?_
  have f17 : ∀ v, FM h (sI h 49 17 v) := fun v => fm_sI (by unfold scM; omega)
  refine wh_iload_n (pc := 0) d_Md_does_0 rfl rfl ?_
  refine wh_bipush (pc := 1) (v := 10) d_Md_does_1 (by decide) ?_
  refine wh_idiv (pc := 3) d_Md_does_3 (by decide) ?_
  rw [(t10 (by omega) hk).1]
  refine wh_istore_n (pc := 4) (ls2 := [_, _, _, _, _, _]) d_Md_does_4 rfl (by decide) rfl rfl ?_
  refine wh_iload_n (pc := 5) d_Md_does_5 rfl rfl ?_
  refine wh_bipush (pc := 6) (v := 10) d_Md_does_6 (by decide) ?_
  refine wh_irem (pc := 8) d_Md_does_8 (by decide) ?_
  rw [(t10 (by omega) hk).2]
  refine wh_istore_n (pc := 9) (ls2 := [_, _, _, _, _, _]) d_Md_does_9 rfl (by decide) rfl rfl ?_
  refine wh_iload_n (pc := 10) d_Md_does_10 rfl rfl ?_
  refine wh_if_ne (pc := 11) (tgt := 25) d_Md_does_11 (by decide) (fun c_11 => ?_) (fun c_11 => absurd c_11 (nI_ne0 (by omega) (by omega)))
  refine wh_iload_n (pc := 25) d_Md_does_25 rfl rfl ?_
  refine wh_i2l (pc := 26) d_Md_does_26 ?_
  refine wh_lconst (pc := 27) (v := 1) d_Md_does_27 (by decide) ?_
  refine wh_ldc2 (pc := 28) d_Md_does_28 kc_Md_172 ?_
  refine cs_Md_69_d (pc := 31) rfl d_Md_does_31 ⟨⟨by decide, by decide⟩, rfl, rfl⟩ (m_in) (Nat.le_of_ble_eq_true rfl) ?_
  refine wh_if_eq (pc := 34) (tgt := 107) d_Md_does_34 (by decide) (fun c_34 => ?_) (fun c_34 => absurd (by decide) c_34)
  refine wh_iload_n (pc := 107) d_Md_does_107 rfl rfl ?_
  refine wh_iconst (pc := 108) (v := 3) d_Md_does_108 (by decide) ?_
  refine wh_icmp_ne (pc := 109) (tgt := 161) d_Md_does_109 (by decide) (fun c_109 => ?_) (fun c_109 => absurd c_109 (by decide))
  refine wh_iload_n (pc := 161) d_Md_does_161 rfl rfl ?_
  refine wh_iconst (pc := 162) (v := 4) d_Md_does_162 (by decide) ?_
  refine wh_icmp_ne (pc := 163) (tgt := 181) d_Md_does_163 (by decide) (fun c_163 => absurd rfl c_163) (fun c_163 => ?_)
  refine wh_aload_n (pc := 166) d_Md_does_166 rfl rfl ?_
  refine gf_Md_28 (pc := 167) rfl d_Md_does_167 ?_
  refine wh_bipush (pc := 170) (v := 17) d_Md_does_170 (by decide) ?_
  refine wh_iald (pc := 172) d_Md_does_172 rfl (by first | exact in_nI (k := 16) (by decide) (by decide) | exact in_nI (k := 17) (by decide) (by decide)) ?_
  refine wh_iload_n (pc := 173) d_Md_does_173 rfl rfl ?_
  refine wh_icmp_eq (pc := 174) (tgt := 181) d_Md_does_174 (by decide) (fun c_174 => ?_) (fun c_174 => ?_)
  · refine wh_iconst (pc := 181) (v := 0) d_Md_does_181 (by decide) ?_
    refine wh_istore (pc := 182) (ls2 := [_, _, _, _, _, _]) d_Md_does_182 (by decide) rfl rfl ?_
    refine wh_aload_n (pc := 184) d_Md_does_184 rfl rfl ?_
    refine gf_Md_28 (pc := 185) rfl d_Md_does_185 ?_
    refine wh_bipush (pc := 188) (v := 17) d_Md_does_188 (by decide) ?_
    refine wh_iload (pc := 190) d_Md_does_190 rfl ?_
    refine wh_if_eq (pc := 192) (tgt := 199) d_Md_does_192 (by decide) (fun c_192 => ?_) (fun c_192 => absurd (by decide) c_192)
    refine wh_aload_n (pc := 199) d_Md_does_199 rfl rfl ?_
    refine gf_Md_28 (pc := 200) rfl d_Md_does_200 ?_
    refine wh_bipush (pc := 203) (v := 17) d_Md_does_203 (by decide) ?_
    refine wh_iald (pc := 205) d_Md_does_205 rfl (by first | exact in_nI (k := 16) (by decide) (by decide) | exact in_nI (k := 17) (by decide) (by decide)) ?_
    refine wh_iast (pc := 206) d_Md_does_206 rfl (by first | exact in_nI (k := 16) (by decide) (by decide) | exact in_nI (k := 17) (by decide) (by decide)) ?_
    refine wh_iload (pc := 207) d_Md_does_207 rfl ?_
    refine wh_zret (pc := 209) d_Md_does_209 rfl rfl ?_
    first
      | exact ⟨_, rfl, f17 _, Or.inr ⟨c_174, rfl⟩⟩
      | exact ⟨_, rfl, f17 _, Or.inl ⟨c_174, rfl, rfl⟩⟩
  · refine wh_iconst (pc := 177) (v := 1) d_Md_does_177 (by decide) ?_
    refine wh_goto (pc := 178) (tgt := 182) d_Md_does_178 (by decide) ?_
    refine wh_istore (pc := 182) (ls2 := [_, _, _, _, _, _]) d_Md_does_182 (by decide) rfl rfl ?_
    refine wh_aload_n (pc := 184) d_Md_does_184 rfl rfl ?_
    refine gf_Md_28 (pc := 185) rfl d_Md_does_185 ?_
    refine wh_bipush (pc := 188) (v := 17) d_Md_does_188 (by decide) ?_
    refine wh_iload (pc := 190) d_Md_does_190 rfl ?_
    refine wh_if_eq (pc := 192) (tgt := 199) d_Md_does_192 (by decide) (fun c_192 => absurd c_192 (by decide)) (fun c_192 => ?_)
    refine wh_iload_n (pc := 195) d_Md_does_195 rfl rfl ?_
    refine wh_goto (pc := 196) (tgt := 206) d_Md_does_196 (by decide) ?_
    refine wh_iast (pc := 206) d_Md_does_206 rfl (by first | exact in_nI (k := 16) (by decide) (by decide) | exact in_nI (k := 17) (by decide) (by decide)) ?_
    refine wh_iload (pc := 207) d_Md_does_207 rfl ?_
    refine wh_zret (pc := 209) d_Md_does_209 rfl rfl ?_
    first
      | exact ⟨_, rfl, f17 _, Or.inr ⟨c_174, rfl⟩⟩
      | exact ⟨_, rfl, f17 _, Or.inl ⟨c_174, rfl, rfl⟩⟩
theorem m_doesZ {l : Launch} {D : va_G} {base : Nat} {h : Hp} {q k : Nat} (hq : q < 10) (hk : k < 10) (hz : (q = 0 ∧ 0 < k) ∨ 5 ≤ q) : SI l D base M_Md_does [.ref 42, .int (nI (10 * q + k))] h (fun g x => FM h g ∧ x = 0) := by
  refine SP.of [some (.ref 42), some (.int (nI (10 * q + k))), none, none, none, none] (by decide) rfl (Nat.le_of_ble_eq_true rfl) ?_
  have f17 : ∀ v, FM h (sI h 49 17 v) := fun v => fm_sI (by unfold scM; omega)
  have n3 : ¬ nI q = 3 := fun z => absurd ((nI_eq (b := 3) (by omega) (by decide)).mp z) (by omega)
  have n4 : ¬ nI q = 4 := fun z => absurd ((nI_eq (b := 4) (by omega) (by decide)).mp z) (by omega)
  have n34 : inF (nI q).toInt64 1 2 = 0 := (inL (nI q) 1 2 rfl rfl).mpr (by rcases hz with z | z; (rw [z.1]; exact Or.inl (by decide)); exact Or.inr (nI_lt (a := 2) (by omega) (by omega)))
  refine wh_iload_n (pc := 0) d_Md_does_0 rfl rfl ?_
  refine wh_bipush (pc := 1) (v := 10) d_Md_does_1 (by decide) ?_
  refine wh_idiv (pc := 3) d_Md_does_3 (by decide) ?_
  rw [(t10 (by omega) hk).1]
  refine wh_istore_n (pc := 4) (ls2 := [_, _, _, _, _, _]) d_Md_does_4 rfl (by decide) rfl rfl ?_
  refine wh_iload_n (pc := 5) d_Md_does_5 rfl rfl ?_
  refine wh_bipush (pc := 6) (v := 10) d_Md_does_6 (by decide) ?_
  refine wh_irem (pc := 8) d_Md_does_8 (by decide) ?_
  rw [(t10 (by omega) hk).2]
  refine wh_istore_n (pc := 9) (ls2 := [_, _, _, _, _, _]) d_Md_does_9 rfl (by decide) rfl rfl ?_
  refine wh_iload_n (pc := 10) d_Md_does_10 rfl rfl ?_
  refine wh_if_ne (pc := 11) (tgt := 25) d_Md_does_11 (by decide) (fun c_11 => ?_) (fun c_11 => absurd c_11 (nI_ne0 (by omega) (by omega)))
  refine wh_iload_n (pc := 25) d_Md_does_25 rfl rfl ?_
  refine wh_i2l (pc := 26) d_Md_does_26 ?_
  refine wh_lconst (pc := 27) (v := 1) d_Md_does_27 (by decide) ?_
  refine wh_ldc2 (pc := 28) d_Md_does_28 kc_Md_172 ?_
  refine cs_Md_69_d (pc := 31) rfl d_Md_does_31 ⟨⟨by decide, by decide⟩, rfl, rfl⟩ (m_in) (Nat.le_of_ble_eq_true rfl) ?_
  refine wh_if_eq (pc := 34) (tgt := 107) d_Md_does_34 (by decide) (fun c_34 => ?_) (fun c_34 => absurd n34 c_34)
  refine wh_iload_n (pc := 107) d_Md_does_107 rfl rfl ?_
  refine wh_iconst (pc := 108) (v := 3) d_Md_does_108 (by decide) ?_
  refine wh_icmp_ne (pc := 109) (tgt := 161) d_Md_does_109 (by decide) (fun c_109 => ?_) (fun c_109 => absurd c_109 n3)
  refine wh_iload_n (pc := 161) d_Md_does_161 rfl rfl ?_
  refine wh_iconst (pc := 162) (v := 4) d_Md_does_162 (by decide) ?_
  refine wh_icmp_ne (pc := 163) (tgt := 181) d_Md_does_163 (by decide) (fun c_163 => ?_) (fun c_163 => absurd c_163 n4)
  refine wh_iconst (pc := 181) (v := 0) d_Md_does_181 (by decide) ?_
  refine wh_istore (pc := 182) (ls2 := [_, _, _, _, _, _]) d_Md_does_182 (by decide) rfl rfl ?_
  refine wh_aload_n (pc := 184) d_Md_does_184 rfl rfl ?_
  refine gf_Md_28 (pc := 185) rfl d_Md_does_185 ?_
  refine wh_bipush (pc := 188) (v := 17) d_Md_does_188 (by decide) ?_
  refine wh_iload (pc := 190) d_Md_does_190 rfl ?_
  refine wh_if_eq (pc := 192) (tgt := 199) d_Md_does_192 (by decide) (fun c_192 => ?_) (fun c_192 => absurd (by decide) c_192)
  refine wh_aload_n (pc := 199) d_Md_does_199 rfl rfl ?_
  refine gf_Md_28 (pc := 200) rfl d_Md_does_200 ?_
  refine wh_bipush (pc := 203) (v := 17) d_Md_does_203 (by decide) ?_
  refine wh_iald (pc := 205) d_Md_does_205 rfl (by first | exact in_nI (k := 16) (by decide) (by decide) | exact in_nI (k := 17) (by decide) (by decide)) ?_
  refine wh_iast (pc := 206) d_Md_does_206 rfl (by first | exact in_nI (k := 16) (by decide) (by decide) | exact in_nI (k := 17) (by decide) (by decide)) ?_
  refine wh_iload (pc := 207) d_Md_does_207 rfl ?_
  refine wh_zret (pc := 209) d_Md_does_209 rfl rfl ?_
  exact ⟨_, rfl, f17 _, rfl⟩
theorem eqv_night (S : St) (i : Nat) : eqv (moved S i) S := fun r k hr => moved_n S i r k hr
theorem page_nt {h : Hp} (hw : nW (pageS h 49) ≤ 5) (hm : nM (pageS h 49) ≤ 6) : pageS (ntP h 49) 49 = nightS (pageS h 49) := by
  have a : ∀ c j, c = 42 ∨ c = 44 ∨ c = 45 → gI (ntP h 49) c j = gI h c j := fun c j hc => by
    unfold ntP
    rw [gI_sN (by omega), fo_N (by omega), fo_N (by omega), lay_N (by omega) (by omega)]
  have b : ∀ j, (j < 5 ∨ j = 16 ∨ j = 17 ∨ 19 ≤ j) → gI (ntP h 49) 49 j = gI h 49 j := fun j hj => by
    unfold ntP
    rw [gI_sM (by omega), fo_O (by omega), fo_O (by omega), lay_N (by omega) (by omega)]
  have c : ∀ j, j < nM (pageS h 49) → gI (ntP h 49) 49 (10 + j) = pageS h 49 3 j + stepF (pageS h 49) j := fun j hj => by
    unfold ntP
    rw [gI_sM (by omega), fo_Y hj]
  have e4 : (gI (ntP h 49) 42 4) = gI h 42 4 := a 42 4 (by simp)
  have e6 : (gI (ntP h 49) 42 6) = gI h 42 6 := a 42 6 (by simp)
  have hW : (gI h 42 4).toNatClampNeg = nW (pageS h 49) := rfl
  have hM : (gI h 42 6).toNatClampNeg = nM (pageS h 49) := rfl
  funext r k
  unfold nightS moved
  by_cases h3 : r = 3 ∧ k < nM (pageS h 49)
  · rw [if_pos h3, h3.1, ← c k h3.2]
    show (if k < (gI (ntP h 49) 42 6).toNatClampNeg then gI (ntP h 49) 49 (10 + k) else 0) = _
    rw [e6, hM, if_pos h3.2]
  · rw [if_neg h3]
    unfold pageS
    rw [e4, e6, hW, hM, b 16 (by omega), b 17 (by omega), b (19 + k) (by omega), a 44 k (by simp), a 45 k (by simp)]
    split
    · rfl
    · by_cases q : k < nW (pageS h 49)
      · rw [if_pos q, if_pos q, b k (by omega)]
      · rw [if_neg q, if_neg q]
    · rfl
    · rw [if_neg (fun q => h3 ⟨rfl, q⟩), if_neg (fun q => h3 ⟨rfl, q⟩)]
    · rfl
    · rfl
    · rfl
theorem fm_nt {h : Hp} : FM h (ntP h 49) := ⟨rfl, fun c j q => by
  unfold ntP
  rw [gI_sN (fun z => q (by unfold scM; omega)), fo_N (fun z => q (by unfold scM; omega)), fo_N (fun z => q (by unfold scM; omega)), lay_N (fun z => q (by unfold scM; omega)) (fun z => q (by unfold scM; omega))]⟩
theorem m_did {l : Launch} {D : va_G} {base : Nat} {h : Hp} {S : St} (hS : pageS h 49 = S) (hF : WFS S) {q k : Nat} (hq : q < 10) (hk : k < 10) : SI l D base M_Md_does [.ref 42, .int (nI (10 * q + k))] h (fun g x => FM h g ∧ ((doB S (nI q) k = true ∧ x = 1 ∧ eqv (pageS g 49) (doS S (nI q) k) ∧ WFS (pageS g 49)) ∨ (doB S (nI q) k = false ∧ x = 0))) := by
  have hw5 := hF.1.1
  have hm6 := hF.2.1.1
  by_cases h0 : q = 0
  · subst h0
    by_cases k0 : k = 0
    · subst k0
      have e := page_nt (h := h) (by rw [hS]; exact hw5) (by rw [hS]; exact hm6)
      rw [hS] at e
      refine SI.of (m_does0 hS hF) ⟨fm_nt, Or.inl ⟨rfl, rfl, ?_, ?_⟩⟩
      · rw [e]; exact eqv_night S _
      · rw [e]; exact wf_moved hF _ (Nat.le_refl _)
    · refine (m_doesZ hq hk (Or.inl ⟨rfl, by omega⟩)).cons (fun g x e => ⟨e.1, Or.inr ⟨?_, e.2⟩⟩)
      show decide (k = 0) = false
      simp [k0]
  by_cases h1 : q = 1
  · subst h1
    refine (m_does1 hS hF hk).cons (fun g x e => ?_)
    rcases e with z | z
    · have e := page_s1 (v := S 1 k + 1) (h := h) (k := k) (by rw [hS]; exact z.2.2.1) (by rw [hS]; exact hw5)
      rw [hS] at e
      refine ⟨by rw [z.2.2.2]; exact fm_sI (by unfold scM; omega), Or.inl ⟨?_, z.2.1, ?_, ?_⟩⟩
      · show decide (canF S (nI k) 1 = 1) = true
        rw [z.1]; rfl
      · rw [z.2.2.2, e]; exact fun _ _ _ => rfl
      · rw [z.2.2.2, e]; exact wf_setC hF (by omega) z.1
    · refine ⟨by rw [z.2.2]; exact FM.rf h, Or.inr ⟨?_, z.2.1⟩⟩
      show decide (canF S (nI k) 1 = 1) = false
      rw [z.1]; rfl
  by_cases h2 : q = 2
  · subst h2
    refine (m_does2 hS hF hk).cons (fun g x e => ?_)
    rcases e with z | z
    · have e := page_s1 (v := S 1 k + -1) (h := h) (k := k) (by rw [hS]; exact z.2.2.1) (by rw [hS]; exact hw5)
      rw [hS] at e
      refine ⟨by rw [z.2.2.2]; exact fm_sI (by unfold scM; omega), Or.inl ⟨?_, z.2.1, ?_, ?_⟩⟩
      · show decide (canF S (nI k) (-1) = 1) = true
        rw [z.1]; rfl
      · rw [z.2.2.2, e]; exact fun _ _ _ => rfl
      · rw [z.2.2.2, e]; exact wf_setC hF (by omega) z.1
    · refine ⟨by rw [z.2.2]; exact FM.rf h, Or.inr ⟨?_, z.2.1⟩⟩
      show decide (canF S (nI k) (-1) = 1) = false
      rw [z.1]; rfl
  have b3 : doB S (nI 3) k = decide (k < 3 ∧ ¬ S 5 2 = nI k) := rfl
  have b4 : doB S (nI 4) k = decide (¬ S 5 3 = nI k) := rfl
  have e52 : S 5 2 = gI h 49 16 := by rw [← hS]; rfl
  have e53 : S 5 3 = gI h 49 17 := by rw [← hS]; rfl
  by_cases h3 : q = 3
  · subst h3
    refine (m_does3 hS hF hk).cons (fun g x e => ⟨e.1, ?_⟩)
    rcases e.2 with z | z
    · have e := page_s16 (v := nI k) (h := h) (by rw [hS]; exact hw5) (by rw [hS]; exact hm6)
      rw [hS] at e
      refine Or.inl ⟨?_, z.2.2.1, ?_, ?_⟩
      · rw [b3, e52]; simp only [decide_eq_true_eq]; exact ⟨z.1, z.2.1⟩
      · rw [z.2.2.2, e]; exact fun _ _ _ => rfl
      · rw [z.2.2.2, e]; exact wf_set5 hF (by decide)
    · refine Or.inr ⟨?_, z.2⟩
      rw [b3, e52]; simp only [decide_eq_false_iff_not]; exact z.1
  by_cases h4 : q = 4
  · subst h4
    refine (m_does4 hS hF hk).cons (fun g x e => ⟨e.1, ?_⟩)
    rcases e.2 with z | z
    · have e := page_s17 (v := nI k) (h := h) (by rw [hS]; exact hw5) (by rw [hS]; exact hm6)
      rw [hS] at e
      refine Or.inl ⟨?_, z.2.1, ?_, ?_⟩
      · rw [b4, e53]; simp only [decide_eq_true_eq]; exact z.1
      · rw [z.2.2, e]; exact fun _ _ _ => rfl
      · rw [z.2.2, e]; exact wf_set5 hF (by decide)
    · refine Or.inr ⟨?_, z.2⟩
      rw [b4, e53]; simp only [decide_eq_false_iff_not]; exact fun y => y z.1
  refine (m_doesZ hq hk (Or.inr (by omega))).cons (fun g x e => ⟨e.1, Or.inr ⟨?_, e.2⟩⟩)
  have nn : ∀ c, c < 5 → ¬ nI q = nI c := fun c hc z => absurd ((nI_eq (by omega) (by omega)).mp z) (by omega)
  unfold doB
  rw [if_neg (show ¬ nI q = 0 from nn 0 (by decide)), if_neg (show ¬ nI q = 1 from nn 1 (by decide)), if_neg (show ¬ nI q = 2 from nn 2 (by decide)), if_neg (show ¬ nI q = 3 from nn 3 (by decide)), if_neg (show ¬ nI q = 4 from nn 4 (by decide))]
theorem r_judge {l : Launch} {D : va_G} {base : Nat} {h : Hp} (hr : Rel h) (w t : Int32) : SI l D base M_Md_judge [.ref 42, .int w, .int t] h (fun g x => FM h g ∧ x = judF (laneS h 2) w t) := by
  refine SP.of [some (.ref 42), some (.int w), some (.int t), none] (by decide) rfl (Nat.le_of_ble_eq_true rfl) ?_
  obtain ⟨hSt, hF⟩ := hr.street
  have hw5 := hF.1.1
  have hm6 := hF.2.1.1
  have hF8 : WFS (pageS h 48) := by rw [← hSt]; exact hF
  have hP0 : pageS (sI h 42 0 0) 48 = pageS h 48 := fm_page fm_thr
  have hw := hr.w
  rw [hSt] at hw5 hm6 ⊢
  by_cases h0 : w < 1 ∨ 4 < w
  · refine wh_aload_n (pc := 0) d_Md_judge_0 rfl rfl ?_
    refine wh_iconst (pc := 1) (v := 0) d_Md_judge_1 (by decide) ?_
    refine pf_Md_62 (pc := 2) rfl d_Md_judge_2 ?_
    refine wh_iload_n (pc := 5) d_Md_judge_5 rfl rfl ?_
    refine wh_i2l (pc := 6) d_Md_judge_6 ?_
    refine wh_lconst (pc := 7) (v := 1) d_Md_judge_7 (by decide) ?_
    refine wh_ldc2 (pc := 8) d_Md_judge_8 kc_Md_213 ?_
    refine cs_Md_69_d (pc := 11) rfl d_Md_judge_11 ⟨⟨by decide, by decide⟩, rfl, rfl⟩ (m_in) (Nat.le_of_ble_eq_true rfl) ?_
    refine wh_if_eq (pc := 14) (tgt := 35) d_Md_judge_14 (by decide) (fun c_14 => ?_) (fun c_14 => absurd ((inL w 1 4 rfl rfl).mpr h0) c_14)
    refine wh_bipush (pc := 35) (v := (-2)) d_Md_judge_35 (by decide) ?_
    refine wh_iret (pc := 37) d_Md_judge_37 rfl ?_
    exact ⟨_, rfl, fm_thr, by unfold judF; rw [if_pos h0]⟩
  obtain ⟨n, hn1, hn4, rfl⟩ := n14 h0
  have hcn := cl_nI (show n < 2 ^ 31 by omega)
  have hpn : 100 ^ n ≤ 100000000 := pow100_le hn4
  have b14 : ¬ inF (nI n).toInt64 1 4 = 0 := fun z => h0 ((inL (nI n) 1 4 rfl rfl).mp z)
  have hp1 : 0 < 100 ^ n := Nat.pos_of_ne_zero (by simp)
  have eL : inF t.toInt64 0 (powN 100 n - 1).toInt64 = 0 ↔ (t < 0 ∨ powN 100 n ≤ t) := by
    refine (inL t 0 (powN 100 n - 1) rfl (l_toI _)).trans ?_
    have e1 : powN 100 n - 1 = nI (100 ^ n - 1) := by rw [pow_100 n (by omega)]; exact pk_sub (b := 1) hp1
    rw [e1, pow_100 n (by omega), i_lt (nI _), i_le (nI _), nI_toInt (by omega), nI_toInt (by omega)]
    constructor
    · rintro (z | z)
      · exact Or.inl z
      · exact Or.inr (by omega)
    · rintro (z | z)
      · exact Or.inl z
      · exact Or.inr (by omega)
  by_cases h1 : t < 0 ∨ powN 100 n ≤ t
  · refine wh_aload_n (pc := 0) d_Md_judge_0 rfl rfl ?_
    refine wh_iconst (pc := 1) (v := 0) d_Md_judge_1 (by decide) ?_
    refine pf_Md_62 (pc := 2) rfl d_Md_judge_2 ?_
    refine wh_iload_n (pc := 5) d_Md_judge_5 rfl rfl ?_
    refine wh_i2l (pc := 6) d_Md_judge_6 ?_
    refine wh_lconst (pc := 7) (v := 1) d_Md_judge_7 (by decide) ?_
    refine wh_ldc2 (pc := 8) d_Md_judge_8 kc_Md_213 ?_
    refine cs_Md_69_d (pc := 11) rfl d_Md_judge_11 ⟨⟨by decide, by decide⟩, rfl, rfl⟩ (m_in) (Nat.le_of_ble_eq_true rfl) ?_
    refine wh_if_eq (pc := 14) (tgt := 35) d_Md_judge_14 (by decide) (fun c_14 => absurd c_14 b14) (fun c_14 => ?_)
    refine wh_iload_n (pc := 17) d_Md_judge_17 rfl rfl ?_
    refine wh_i2l (pc := 18) d_Md_judge_18 ?_
    refine wh_lconst (pc := 19) (v := 0) d_Md_judge_19 (by decide) ?_
    refine wh_bipush (pc := 20) (v := 100) d_Md_judge_20 (by decide) ?_
    refine wh_iload_n (pc := 22) d_Md_judge_22 rfl rfl ?_
    refine cs_Md_195_d (pc := 23) rfl d_Md_judge_23 ⟨⟨by decide, by decide⟩, rfl, rfl⟩ (m_power (by omega)) (Nat.le_of_ble_eq_true rfl) ?_
    refine wh_iconst (pc := 26) (v := 1) d_Md_judge_26 (by decide) ?_
    refine wh_isub (pc := 27) d_Md_judge_27 ?_
    refine wh_i2l (pc := 28) d_Md_judge_28 ?_
    refine cs_Md_69_d (pc := 29) rfl d_Md_judge_29 ⟨⟨by decide, by decide⟩, rfl, rfl⟩ (m_in) (Nat.le_of_ble_eq_true rfl) ?_
    refine wh_if_ne (pc := 32) (tgt := 38) d_Md_judge_32 (by decide) (fun c_32 => absurd (eL.mpr h1) c_32) (fun c_32 => ?_)
    refine wh_bipush (pc := 35) (v := (-2)) d_Md_judge_35 (by decide) ?_
    refine wh_iret (pc := 37) d_Md_judge_37 rfl ?_
    exact ⟨_, rfl, fm_thr, by unfold judF; rw [if_neg h0, hcn, if_pos h1]⟩
  have hlc := page_bg (h := sI h 42 0 0) (by rw [hP0]; exact hw5) (by rw [hP0]; exact hm6)
  rw [hP0] at hlc
  have h1a : ¬ t < 0 := fun z => h1 (Or.inl z)
  have h1b : t < powN 100 n := by rw [i_lt]; rw [i_lt, i_le] at h1; omega
  obtain ⟨rr, hrr, rfl⟩ : ∃ rr, rr < 2 ^ 31 ∧ t = nI rr := by
    rw [i_lt, i_0] at h1a
    rw [i_lt, pow_100 n (by omega), nI_toInt (by omega)] at h1b
    obtain ⟨r, e1, e2⟩ := nI_back (x := t) (by omega) (n := 100000000) (by omega) (by decide)
    exact ⟨r, by omega, e2⟩
  have hcr := cl_nI hrr
  have hj : judF (pageS h 48) (nI n) (nI rr) = jdN rr n n (pageS h 48) := by unfold judF; rw [if_neg h0, hcn, if_neg h1, hcr]
  refine wh_aload_n (pc := 0) d_Md_judge_0 rfl rfl ?_
  refine wh_iconst (pc := 1) (v := 0) d_Md_judge_1 (by decide) ?_
  refine pf_Md_62 (pc := 2) rfl d_Md_judge_2 ?_
  refine wh_iload_n (pc := 5) d_Md_judge_5 rfl rfl ?_
  refine wh_i2l (pc := 6) d_Md_judge_6 ?_
  refine wh_lconst (pc := 7) (v := 1) d_Md_judge_7 (by decide) ?_
  refine wh_ldc2 (pc := 8) d_Md_judge_8 kc_Md_213 ?_
  refine cs_Md_69_d (pc := 11) rfl d_Md_judge_11 ⟨⟨by decide, by decide⟩, rfl, rfl⟩ (m_in) (Nat.le_of_ble_eq_true rfl) ?_
  refine wh_if_eq (pc := 14) (tgt := 35) d_Md_judge_14 (by decide) (fun c_14 => absurd c_14 b14) (fun c_14 => ?_)
  refine wh_iload_n (pc := 17) d_Md_judge_17 rfl rfl ?_
  refine wh_i2l (pc := 18) d_Md_judge_18 ?_
  refine wh_lconst (pc := 19) (v := 0) d_Md_judge_19 (by decide) ?_
  refine wh_bipush (pc := 20) (v := 100) d_Md_judge_20 (by decide) ?_
  refine wh_iload_n (pc := 22) d_Md_judge_22 rfl rfl ?_
  refine cs_Md_195_d (pc := 23) rfl d_Md_judge_23 ⟨⟨by decide, by decide⟩, rfl, rfl⟩ (m_power (by omega)) (Nat.le_of_ble_eq_true rfl) ?_
  refine wh_iconst (pc := 26) (v := 1) d_Md_judge_26 (by decide) ?_
  refine wh_isub (pc := 27) d_Md_judge_27 ?_
  refine wh_i2l (pc := 28) d_Md_judge_28 ?_
  refine cs_Md_69_d (pc := 29) rfl d_Md_judge_29 ⟨⟨by decide, by decide⟩, rfl, rfl⟩ (m_in) (Nat.le_of_ble_eq_true rfl) ?_
  refine wh_if_ne (pc := 32) (tgt := 38) d_Md_judge_32 (by decide) (fun c_32 => ?_) (fun c_32 => absurd c_32 (fun z => h1 (eL.mp z)))
  refine wh_aload_n (pc := 38) d_Md_judge_38 rfl rfl ?_
  refine cv_Md_180_d (pc := 39) rfl d_Md_judge_39 ⟨⟨by decide, by decide⟩, rfl, rfl⟩ (m_begin) (Nat.le_of_ble_eq_true rfl) ?_
  refine wh_iconst (pc := 42) (v := 0) d_Md_judge_42 (by decide) ?_
  refine wh_istore_n (pc := 43) (ls2 := [_, _, _, _]) d_Md_judge_43 rfl (by decide) rfl rfl ?_
  refine wh_loopR n (fun i => [some (.ref 42), some (.int (nI n)), some (.int (nI rr)), some (.int (nI i))]) (fun i g => FM h g ∧ WFS (pageS g 49) ∧ judF (pageS h 48) (nI n) (nI rr) = jdN rr n (n - i) (pageS g 49)) ?_ ?_ 0 (bgH (sI h 42 0 0)) (Nat.zero_le _) ⟨fm_thr.tr fm_bg, by rw [hlc]; exact hF8, by rw [hlc]; exact hj⟩
  · intro g hI
    refine wh_iload_n (pc := 44) d_Md_judge_44 rfl rfl ?_
    refine wh_iload_n (pc := 45) d_Md_judge_45 rfl rfl ?_
    refine wh_icmp_ge (pc := 46) (tgt := 79) d_Md_judge_46 (by decide) (fun c_46 => ?_) (fun c_46 => absurd (nI_le (Nat.le_refl _) (by omega)) c_46)
    refine wh_bipush (pc := 79) (v := (-9)) d_Md_judge_79 (by decide) ?_
    refine wh_iret (pc := 81) d_Md_judge_81 rfl ?_
    exact ⟨_, rfl, hI.1, by rw [hI.2.2, Nat.sub_self]; rfl⟩
  · intro i g hi hI ih
    obtain ⟨hfm, hgF, hgE⟩ := hI
    have hle2 : 100 ^ (n - 1 - i) ≤ 100000000 := pow100_le (by omega)
    have hpos : 0 < 100 ^ (n - 1 - i) := Nat.pos_of_ne_zero (by simp)
    have hd : (rr / 100 ^ (n - 1 - i) % 100) < 100 := Nat.mod_lt _ (by decide)
    have hdd : 10 * ((rr / 100 ^ (n - 1 - i) % 100) / 10) + (rr / 100 ^ (n - 1 - i) % 100) % 10 = (rr / 100 ^ (n - 1 - i) % 100) := by omega
    refine wh_iload_n (pc := 44) d_Md_judge_44 rfl rfl ?_
    refine wh_iload_n (pc := 45) d_Md_judge_45 rfl rfl ?_
    refine wh_icmp_ge (pc := 46) (tgt := 79) d_Md_judge_46 (by decide) (fun c_46 => absurd c_46 (nI_ge hi (by omega))) (fun c_46 => ?_)
    refine wh_aload_n (pc := 49) d_Md_judge_49 rfl rfl ?_
    refine wh_iload_n (pc := 50) d_Md_judge_50 rfl rfl ?_
    refine wh_bipush (pc := 51) (v := 100) d_Md_judge_51 (by decide) ?_
    refine wh_iload_n (pc := 53) d_Md_judge_53 rfl rfl ?_
    refine wh_iconst (pc := 54) (v := 1) d_Md_judge_54 (by decide) ?_
    refine wh_isub (pc := 55) d_Md_judge_55 ?_
    refine wh_iload_n (pc := 56) d_Md_judge_56 rfl rfl ?_
    refine wh_isub (pc := 57) d_Md_judge_57 ?_
    rw [down_n hi (by omega)]
    refine cs_Md_195_d (pc := 58) rfl d_Md_judge_58 ⟨⟨by decide, by decide⟩, rfl, rfl⟩ (m_power (k := n - 1 - i) (by omega)) (Nat.le_of_ble_eq_true rfl) ?_
    rw [pow_100 _ (by omega)]
    refine wh_idiv (pc := 61) d_Md_judge_61 (nI_ne0 hpos (by omega)) ?_
    refine wh_bipush (pc := 62) (v := 100) d_Md_judge_62 (by decide) ?_
    refine wh_irem (pc := 64) d_Md_judge_64 (by decide) ?_
    rw [dig_100 (by omega) hpos (by omega), ← hdd]
    refine cv_Md_215_i (pc := 65) rfl d_Md_judge_65 ⟨⟨by decide, by decide⟩, rfl, rfl⟩ (m_did (q := (rr / 100 ^ (n - 1 - i) % 100) / 10) (k := (rr / 100 ^ (n - 1 - i) % 100) % 10) rfl hgF (by omega) (by omega)) (Nat.le_of_ble_eq_true rfl) (fun h_65 x_65 e_65 => ?_)
    refine wh_if_ne (pc := 68) (tgt := 73) d_Md_judge_68 (by decide) (fun c_68 => ?_) (fun c_68 => ?_)
    · refine wh_iinc (pc := 73) (ls2 := [_, _, _, _]) d_Md_judge_73 rfl (nI_inc _) (by decide) rfl rfl ?_
      refine wh_goto (pc := 76) (tgt := 44) d_Md_judge_76 (by decide) ?_
      rcases e_65.2 with z | z
      · refine ih _ ⟨hfm.tr e_65.1, z.2.2.2, by rw [hgE, jd_y hi z.1]; exact (jd_eqv _ _ _ _ _ z.2.2.1).symm⟩
      · exact absurd z.2 c_68
    · refine wh_iload_n (pc := 71) d_Md_judge_71 rfl rfl ?_
      refine wh_iret (pc := 72) d_Md_judge_72 rfl ?_
      rcases e_65.2 with z | z
      · exact absurd (z.2.1.symm.trans c_68) (by decide)
      · exact ⟨_, rfl, hfm.tr e_65.1, by rw [hgE, jd_n hi z.1]⟩
theorem x_judge {l : Launch} {D : va_G} {base : Nat} (w t : Int32) : CMD l D base M_Lm_judge M_Md_judge [.int w, .int t] := CMD.q (fun h => judF (laneS h 2) w t) (fun h h' f _ => by rw [fc_lane f]) (fun h hr => c_judge hr w t) (fun h hr => r_judge hr w t)

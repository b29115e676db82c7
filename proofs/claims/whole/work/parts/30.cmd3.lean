theorem s_forget1 {l : Launch} {D : va_G} {base : Nat} {h : Hp} (hR : Rows h) : SD l D base M_Lm_forgetFirstAct [.ref 0] h none (rotH h) := by
  refine SP.of [some (.ref 0), none, none] (by decide) rfl (Nat.le_of_ble_eq_true rfl) ?_
  obtain ⟨r0, hr0, q1, q2⟩ := hR.1 0 (by decide)
  refine wh_aload_n (pc := 0) d_Lm_forgetFirstAct_0 rfl rfl ?_
  refine gf_Lm_36 (pc := 1) rfl d_Lm_forgetFirstAct_1 ?_
  refine wh_iconst (pc := 4) (v := 0) d_Lm_forgetFirstAct_4 (by decide) ?_
  refine wh_aald (pc := 5) d_Lm_forgetFirstAct_5 rfl (vp_in_iff.mpr (by decide)) hr0 ?_
  refine wh_astore_n (pc := 6) (ls2 := [_, _, _]) d_Lm_forgetFirstAct_6 rfl (by decide) rfl rfl ?_
  refine wh_iconst (pc := 7) (v := 1) d_Lm_forgetFirstAct_7 (by decide) ?_
  refine wh_istore_n (pc := 8) (ls2 := [_, _, _]) d_Lm_forgetFirstAct_8 rfl (by decide) rfl rfl ?_
  refine wh_eq (wh_loop 13 (fun i => [some (.ref 0), some (.ref r0), some (.int (nI (i + 1)))]) (fun i => rotN h i) (fun _ => True) ?_ ?_ 0 (Nat.zero_le _) trivial) rfl rfl (rot_0 h).symm
  · intro _
    refine wh_iload_n (pc := 9) d_Lm_forgetFirstAct_9 rfl rfl ?_
    refine wh_bipush (pc := 10) (v := 14) d_Lm_forgetFirstAct_10 (by decide) ?_
    refine wh_icmp_ge (pc := 12) (tgt := 35) d_Lm_forgetFirstAct_12 (by decide) (fun c_12 => ?_) (fun c_12 => absurd (by decide) c_12)
    refine wh_aload_n (pc := 35) d_Lm_forgetFirstAct_35 rfl rfl ?_
    refine gf_Lm_36 (pc := 36) rfl d_Lm_forgetFirstAct_36 ?_
    refine wh_bipush (pc := 39) (v := 13) d_Lm_forgetFirstAct_39 (by decide) ?_
    refine wh_aload_n (pc := 41) d_Lm_forgetFirstAct_41 rfl rfl ?_
    refine wh_aast (pc := 42) d_Lm_forgetFirstAct_42 rfl (row_sh q1 q2) (vp_in_iff.mpr (by decide)) ?_
    refine wh_aload_n (pc := 43) d_Lm_forgetFirstAct_43 rfl rfl ?_
    refine wh_bipush (pc := 44) (v := 13) d_Lm_forgetFirstAct_44 (by decide) ?_
    refine pf_Lm_39 (pc := 46) rfl d_Lm_forgetFirstAct_46 ?_
    refine wh_vret (pc := 49) d_Lm_forgetFirstAct_49 rfl ?_
    exact ⟨by rw [← hr0]; rfl, rfl⟩
  · intro i hi _ ih
    obtain ⟨r, hr, b1, b2⟩ := hR.1 (i + 1) (by omega)
    have e1 : nI (i + 1) - 1 = nI i := nI_pred i
    refine wh_iload_n (pc := 9) d_Lm_forgetFirstAct_9 rfl rfl ?_
    refine wh_bipush (pc := 10) (v := 14) d_Lm_forgetFirstAct_10 (by decide) ?_
    refine wh_icmp_ge (pc := 12) (tgt := 35) d_Lm_forgetFirstAct_12 (by decide) (fun c_12 => absurd c_12 (nI_ge (show i + 1 < 14 by omega) (by decide))) (fun c_12 => ?_)
    refine wh_aload_n (pc := 15) d_Lm_forgetFirstAct_15 rfl rfl ?_
    refine gf_Lm_36 (pc := 16) rfl d_Lm_forgetFirstAct_16 ?_
    refine wh_iload_n (pc := 19) d_Lm_forgetFirstAct_19 rfl rfl ?_
    refine wh_iconst (pc := 20) (v := 1) d_Lm_forgetFirstAct_20 (by decide) ?_
    refine wh_isub (pc := 21) d_Lm_forgetFirstAct_21 ?_
    refine wh_aload_n (pc := 22) d_Lm_forgetFirstAct_22 rfl rfl ?_
    refine gf_Lm_36 (pc := 23) rfl d_Lm_forgetFirstAct_23 ?_
    refine wh_iload_n (pc := 26) d_Lm_forgetFirstAct_26 rfl rfl ?_
    refine wh_aald (pc := 27) d_Lm_forgetFirstAct_27 rfl (in_nI (by omega) (by omega)) (show gR (rotN h i) 19 (nI (i + 1)).toNatClampNeg = some r by rw [cl_nI (by omega), gR_rot, if_neg (fun z => by omega)]; exact hr) ?_
    refine wh_aast (pc := 28) d_Lm_forgetFirstAct_28 rfl (row_sh b1 b2) (by rw [e1]; exact in_nI (by omega) (by omega)) ?_
    refine wh_iinc (pc := 29) (ls2 := [_, _, _]) d_Lm_forgetFirstAct_29 rfl (nI_inc _) (by decide) rfl rfl ?_
    refine wh_goto (pc := 32) (tgt := 9) d_Lm_forgetFirstAct_32 (by decide) ?_
    refine wh_eq (ih trivial) rfl rfl ?_
    rw [e1, cl_nI (by omega)]
    exact rot_s h i hr.symm
theorem s_remember {l : Launch} {D : va_G} {base : Nat} {h : Hp} (hR : Rows h) {na : Nat} (ha : na ≤ 14) (hn : gI h 0 6 = nI na) : SV l D base M_Lm_remember [.ref 0] h (fun h2 => RMc h h2 na (grow na).1 (grow na).2) := by
  refine SP.of [some (.ref 0)] (by decide) rfl (Nat.le_of_ble_eq_true rfl) ?_
  by_cases h14 : na < 14
  · have hg : grow na = (0, na + 1) := if_neg (by omega)
    obtain ⟨r, hr, q1, q2⟩ := hR.1 na (by omega)
    have hv : vp_in (gI h 0 6) 14 := by rw [hn]; exact in_nI (by omega) (by omega)
    have hc : (gI h 0 6).toNatClampNeg = na := by rw [hn]; exact cl_nI (by omega)
    refine wh_aload_n (pc := 0) d_Lm_remember_0 rfl rfl ?_
    refine gf_Lm_39 (pc := 1) rfl d_Lm_remember_1 ?_
    refine wh_bipush (pc := 4) (v := 14) d_Lm_remember_4 (by decide) ?_
    refine wh_icmp_lt (pc := 6) (tgt := 13) d_Lm_remember_6 (by decide) (fun c_6 => ?_) (fun c_6 => absurd (by rw [hn]; exact nI_lt (by omega) (by decide)) c_6)
    refine wh_aload_n (pc := 13) d_Lm_remember_13 rfl rfl ?_
    refine gf_Lm_39 (pc := 14) rfl d_Lm_remember_14 ?_
    refine wh_if_lt (pc := 17) (tgt := 55) d_Lm_remember_17 (by decide) (fun c_17 => absurd c_17 (by rw [hn]; exact nI_pos (by omega))) (fun c_17 => ?_)
    refine wh_aload_n (pc := 20) d_Lm_remember_20 rfl rfl ?_
    refine gf_Lm_39 (pc := 21) rfl d_Lm_remember_21 ?_
    refine wh_bipush (pc := 24) (v := 14) d_Lm_remember_24 (by decide) ?_
    refine wh_icmp_ge (pc := 26) (tgt := 55) d_Lm_remember_26 (by decide) (fun c_26 => absurd c_26 (by rw [hn]; exact nI_ge (by omega) (by decide))) (fun c_26 => ?_)
    refine wh_aload_n (pc := 29) d_Lm_remember_29 rfl rfl ?_
    refine gf_Lm_20 (pc := 30) rfl d_Lm_remember_30 ?_
    refine wh_aload_n (pc := 33) d_Lm_remember_33 rfl rfl ?_
    refine gf_Lm_36 (pc := 34) rfl d_Lm_remember_34 ?_
    refine wh_aload_n (pc := 37) d_Lm_remember_37 rfl rfl ?_
    refine gf_Lm_39 (pc := 38) rfl d_Lm_remember_38 ?_
    refine wh_aald (pc := 41) d_Lm_remember_41 rfl hv (show gR h 19 (gI h 0 6).toNatClampNeg = some r by rw [hc]; exact hr) ?_
    refine cv_Lm_230_d (pc := 42) (Or.inl rfl) rfl d_Lm_remember_42 ⟨⟨by decide, by decide⟩, rfl, rfl⟩ (s_save (Or.inl rfl) (row_sh q1 q2) (by omega)) (Nat.le_of_ble_eq_true rfl) ?_
    refine wh_aload_n (pc := 45) d_Lm_remember_45 rfl rfl ?_
    refine wh_dup (pc := 46) d_Lm_remember_46 rfl ?_
    refine gf_Lm_39 (pc := 47) rfl d_Lm_remember_47 ?_
    refine wh_iconst (pc := 50) (v := 1) d_Lm_remember_50 (by decide) ?_
    refine wh_iadd (pc := 51) d_Lm_remember_51 ?_
    refine pf_Lm_39 (pc := 52) rfl d_Lm_remember_52 ?_
    refine wh_vret (pc := 55) d_Lm_remember_55 rfl ?_
    refine ⟨rfl, ?_⟩
    rw [hg]
    rw [sv_out (show (0 : Nat) ≠ r by omega), hn, nI_1]
    refine ⟨by rw [gI_sS], hR.same rfl, rfl, rfl, fun i hi r2 hr2 => ⟨r2, hr2, fun j _ => ?_⟩, fun r2 hr2 j hj => ?_, fun c j q => ?_⟩
    · obtain ⟨r3, hr3, b1, b2⟩ := hR.1 i (by omega)
      have e3 : r2 = r3 := Option.some.inj (hr2.symm.trans hr3)
      subst e3
      have hne : r2 ≠ r := fun z => by subst z; have := hR.2.1 i na (by omega) (by omega) (hr3.trans hr.symm); omega
      rw [gI_sN (by omega), sv_out hne]
    · have e3 : r2 = r := Option.some.inj (hr2.symm.trans hr)
      subst e3
      rw [gI_sN (by omega), sv_now hj]
    · rw [gI_sI, if_neg (fun z => q (Or.inl z)), sv_out (by omega)]
  · have e14 : na = 14 := by omega
    subst e14
    have hg : grow 14 = (1, 14) := if_pos rfl
    obtain ⟨r, hr, q1, q2⟩ := hR.1 0 (by omega)
    have hr13 : gR (rotH h) 19 13 = some r := by rw [gR_rotH h (by decide)]; exact hr
    refine wh_aload_n (pc := 0) d_Lm_remember_0 rfl rfl ?_
    refine gf_Lm_39 (pc := 1) rfl d_Lm_remember_1 ?_
    refine wh_bipush (pc := 4) (v := 14) d_Lm_remember_4 (by decide) ?_
    refine wh_icmp_lt (pc := 6) (tgt := 13) d_Lm_remember_6 (by decide) (fun c_6 => absurd c_6 (by rw [hn]; decide)) (fun c_6 => ?_)
    refine wh_aload_n (pc := 9) d_Lm_remember_9 rfl rfl ?_
    refine cv_Lm_249_d (pc := 10) rfl d_Lm_remember_10 ⟨⟨by decide, by decide⟩, rfl, rfl⟩ (s_forget1 hR) (Nat.le_of_ble_eq_true rfl) ?_
    refine wh_aload_n (pc := 13) d_Lm_remember_13 rfl rfl ?_
    refine gf_Lm_39 (pc := 14) rfl d_Lm_remember_14 ?_
    refine wh_if_lt (pc := 17) (tgt := 55) d_Lm_remember_17 (by decide) (fun c_17 => absurd c_17 (by show ¬ (13 : Int32) < 0; decide)) (fun c_17 => ?_)
    refine wh_aload_n (pc := 20) d_Lm_remember_20 rfl rfl ?_
    refine gf_Lm_39 (pc := 21) rfl d_Lm_remember_21 ?_
    refine wh_bipush (pc := 24) (v := 14) d_Lm_remember_24 (by decide) ?_
    refine wh_icmp_ge (pc := 26) (tgt := 55) d_Lm_remember_26 (by decide) (fun c_26 => absurd c_26 (by show ¬ (14 : Int32) ≤ 13; decide)) (fun c_26 => ?_)
    refine wh_aload_n (pc := 29) d_Lm_remember_29 rfl rfl ?_
    refine gf_Lm_20 (pc := 30) rfl d_Lm_remember_30 ?_
    refine wh_aload_n (pc := 33) d_Lm_remember_33 rfl rfl ?_
    refine gf_Lm_36 (pc := 34) rfl d_Lm_remember_34 ?_
    refine wh_aload_n (pc := 37) d_Lm_remember_37 rfl rfl ?_
    refine gf_Lm_39 (pc := 38) rfl d_Lm_remember_38 ?_
    refine wh_aald (pc := 41) d_Lm_remember_41 rfl (show vp_in 13 14 from vp_in_iff.mpr (by decide)) hr13 ?_
    refine cv_Lm_230_d (pc := 42) (Or.inl rfl) rfl d_Lm_remember_42 ⟨⟨by decide, by decide⟩, rfl, rfl⟩ (s_save (Or.inl rfl) (row_sh q1 q2) (by omega)) (Nat.le_of_ble_eq_true rfl) ?_
    refine wh_aload_n (pc := 45) d_Lm_remember_45 rfl rfl ?_
    refine wh_dup (pc := 46) d_Lm_remember_46 rfl ?_
    refine gf_Lm_39 (pc := 47) rfl d_Lm_remember_47 ?_
    refine wh_iconst (pc := 50) (v := 1) d_Lm_remember_50 (by decide) ?_
    refine wh_iadd (pc := 51) d_Lm_remember_51 ?_
    refine pf_Lm_39 (pc := 52) rfl d_Lm_remember_52 ?_
    refine wh_vret (pc := 55) d_Lm_remember_55 rfl ?_
    refine ⟨rfl, ?_⟩
    rw [hg]
    rw [sv_out (show (0 : Nat) ≠ r by omega)]
    have hnow : ∀ j, nowR (rotH h) j = nowR h j := fun j => by unfold nowR rotH; rw [gI_sN (by omega), gI_sN (by omega), gI_sN (by omega), gI_sN (by omega)]; rfl
    refine ⟨?_, (rows_rot hR).same rfl, rfl, rfl, fun i hi r2 hr2 => ⟨r2, ?_, fun j _ => ?_⟩, fun r2 hr2 j hj => ?_, fun c j q => ?_⟩
    · rw [gI_sS]; rfl
    · have : gR (rotH h) 19 i = some r2 := hr2
      rw [gR_rotH h (by omega), if_pos (by omega)] at this; exact this
    · have hr3 : gR (rotH h) 19 i = some r2 := hr2
      obtain ⟨r4, hr4, b1, b2⟩ := (rows_rot hR).1 i (by omega)
      have e3 : r2 = r4 := Option.some.inj (hr3.symm.trans hr4)
      subst e3
      have hne : r2 ≠ r := fun z => by subst z; have := (rows_rot hR).2.1 i 13 (by omega) (by omega) (hr3.trans hr13.symm); omega
      rw [gI_sN (by omega), sv_out hne]; exact gI_sN (by omega)
    · have e3 : r2 = r := Option.some.inj (hr2.symm.trans hr13)
      subst e3
      rw [gI_sN (by omega), sv_now hj]; exact hnow j
    · rw [gI_sI, if_neg (fun z => q (Or.inl z)), sv_out (by omega)]; show gI (sI _ 0 6 13) c j = _; rw [gI_sI, if_neg (fun z => q (Or.inl z))]; rfl
/-- the book moved one page on as far as i -/
def bkN (h : Hp) (i : Nat) : Hp := fillA h 50 (fun k => gI h 50 (k + 24)) i
theorem a24 (k : Nat) : nI k + 24 = nI (k + 24) := nI_add k 24
theorem m24 (a k : Nat) : (24 : Int32) * nI a + nI k = nI (24 * a + k) := by rw [show (24 : Int32) = nI 24 from rfl, pk_mul, nI_add]
theorem m_note {l : Launch} {D : va_G} {base : Nat} {h : Hp} {na : Nat} (ha : na ≤ 14) (hn : gI h 42 17 = nI na) : SV l D base M_Md_note [.ref 42] h (fun h2 => RMm h h2 na (grow na).1 (grow na).2) := by
  refine SP.of [some (.ref 42), none] (by decide) rfl (Nat.le_of_ble_eq_true rfl) ?_
  by_cases h14 : na < 14
  · have hg : grow na = (0, na + 1) := if_neg (by omega)
    have hna := hn
    refine wh_aload_n (pc := 0) d_Md_note_0 rfl rfl ?_
    refine gf_Md_119 (pc := 1) rfl d_Md_note_1 ?_
    refine wh_bipush (pc := 4) (v := 14) d_Md_note_4 (by decide) ?_
    refine wh_icmp_ne (pc := 6) (tgt := 49) d_Md_note_6 (by decide) (fun c_6 => ?_) (fun c_6 => absurd c_6 (by rw [hn]; exact fun z => absurd ((nI_eq (by omega) (by decide)).mp (show nI na = nI 14 from z)) (by omega)))
    refine wh_iconst (pc := 49) (v := 0) d_Md_note_49 (by decide) ?_
    refine wh_istore_n (pc := 50) (ls2 := [_, _]) d_Md_note_50 rfl (by decide) rfl rfl ?_
    refine wh_eq (wh_loop 24 (fun i => [some (.ref 42), some (.int (nI i))]) (fun i => fillO (h) 50 (24 * na) (fun k => gI (h) 48 k) i) (fun _ => True) ?_ ?_ 0 (Nat.zero_le _) trivial) ?_ rfl (fo_0 _ _ _ _).symm
    · intro _
      refine wh_iload_n (pc := 51) d_Md_note_51 rfl rfl ?_
      refine wh_bipush (pc := 52) (v := 24) d_Md_note_52 (by decide) ?_
      refine wh_icmp_ge (pc := 54) (tgt := 83) d_Md_note_54 (by decide) (fun c_54 => ?_) (fun c_54 => absurd (by decide) c_54)
      refine wh_aload_n (pc := 83) d_Md_note_83 rfl rfl ?_
      refine wh_dup (pc := 84) d_Md_note_84 rfl ?_
      refine gf_Md_119 (pc := 85) rfl d_Md_note_85 ?_
      refine wh_iconst (pc := 88) (v := 1) d_Md_note_88 (by decide) ?_
      refine wh_iadd (pc := 89) d_Md_note_89 ?_
      refine pf_Md_119 (pc := 90) rfl d_Md_note_90 ?_
      refine wh_vret (pc := 93) d_Md_note_93 rfl ?_
      refine ⟨rfl, ?_⟩
      rw [hg]
      rw [fo_N (by decide), hna, nI_1]
      refine ⟨by rw [gI_sS], rfl, fun i hi j hj => ?_, fun j hj => ?_, fun c j q => ?_⟩
      · have hi2 : i + 1 < na + 1 := hi
        rw [gI_sN (by decide), fo_O (Or.inl (by omega))]; rfl
      · show gI _ 50 (24 * (na + 1 - 1) + j) = _
        rw [gI_sN (by decide), show na + 1 - 1 = na by omega, fo_Y hj]
      · rw [gI_sI, if_neg (fun z => q (Or.inl z)), fo_N (by omega)]
    · intro i hi _ ih
      refine wh_iload_n (pc := 51) d_Md_note_51 rfl rfl ?_
      refine wh_bipush (pc := 52) (v := 24) d_Md_note_52 (by decide) ?_
      refine wh_icmp_ge (pc := 54) (tgt := 83) d_Md_note_54 (by decide) (fun c_54 => absurd c_54 (nI_ge hi (by decide))) (fun c_54 => ?_)
      refine wh_aload_n (pc := 57) d_Md_note_57 rfl rfl ?_
      refine gf_Md_31 (pc := 58) rfl d_Md_note_58 ?_
      refine wh_bipush (pc := 61) (v := 24) d_Md_note_61 (by decide) ?_
      refine wh_aload_n (pc := 63) d_Md_note_63 rfl rfl ?_
      refine gf_Md_119 (pc := 64) rfl d_Md_note_64 ?_
      refine wh_imul (pc := 67) d_Md_note_67 ?_
      refine wh_iload_n (pc := 68) d_Md_note_68 rfl rfl ?_
      refine wh_iadd (pc := 69) d_Md_note_69 ?_
      refine wh_aload_n (pc := 70) d_Md_note_70 rfl rfl ?_
      refine gf_Md_25 (pc := 71) rfl d_Md_note_71 ?_
      refine wh_iload_n (pc := 74) d_Md_note_74 rfl rfl ?_
      refine wh_iald (pc := 75) d_Md_note_75 rfl (by first | exact in_nI (by omega) (by omega) | (rw [fo_N (by decide), hna, m24]; exact in_nI (by omega) (by omega))) ?_
      refine wh_iast (pc := 76) d_Md_note_76 rfl (by first | exact in_nI (by omega) (by omega) | (rw [fo_N (by decide), hna, m24]; exact in_nI (by omega) (by omega))) ?_
      refine wh_iinc (pc := 77) (ls2 := [_, _]) d_Md_note_77 rfl (nI_inc _) (by decide) rfl rfl ?_
      refine wh_goto (pc := 80) (tgt := 51) d_Md_note_80 (by decide) ?_
      refine wh_eq (ih trivial) rfl rfl ?_
      rw [fo_N (by decide), hna, m24, cl_nI (by omega), cl_nI (by omega)]
      exact fo_s _ _ _ _ _ (by rw [fo_N (by decide)])
    · rfl
  · have e14 : na = 14 := by omega
    subst e14
    have hg : grow 14 = (1, 14) := if_pos rfl
    have hna : gI (sI (bkN h 312) 42 17 (nI 13)) 42 17 = nI 13 := gI_sS _ _ _ _
    refine wh_aload_n (pc := 0) d_Md_note_0 rfl rfl ?_
    refine gf_Md_119 (pc := 1) rfl d_Md_note_1 ?_
    refine wh_bipush (pc := 4) (v := 14) d_Md_note_4 (by decide) ?_
    refine wh_icmp_ne (pc := 6) (tgt := 49) d_Md_note_6 (by decide) (fun c_6 => absurd (by rw [hn]; decide) c_6) (fun c_6 => ?_)
    refine wh_iconst (pc := 9) (v := 0) d_Md_note_9 (by decide) ?_
    refine wh_istore_n (pc := 10) (ls2 := [_, _]) d_Md_note_10 rfl (by decide) rfl rfl ?_
    refine wh_eq (wh_loop 312 (fun i => [some (.ref 42), some (.int (nI i))]) (fun i => bkN h i) (fun _ => True) ?_ ?_ 0 (Nat.zero_le _) trivial) rfl rfl (fill_0 _ _ _).symm
    · intro _
      refine wh_iload_n (pc := 11) d_Md_note_11 rfl rfl ?_
      refine wh_sipush (pc := 12) (v := 312) d_Md_note_12 (by decide) ?_
      refine wh_icmp_ge (pc := 15) (tgt := 39) d_Md_note_15 (by decide) (fun c_15 => ?_) (fun c_15 => absurd (by decide) c_15)
      refine wh_aload_n (pc := 39) d_Md_note_39 rfl rfl ?_
      refine wh_dup (pc := 40) d_Md_note_40 rfl ?_
      refine gf_Md_119 (pc := 41) rfl d_Md_note_41 ?_
      refine wh_iconst (pc := 44) (v := 1) d_Md_note_44 (by decide) ?_
      refine wh_isub (pc := 45) d_Md_note_45 ?_
      refine pf_Md_119 (pc := 46) rfl d_Md_note_46 ?_
      refine wh_eq ?_ rfl rfl (show _ = (sI (bkN h 312) 42 17 (nI 13)) by rw [show gI (bkN h 312) 42 17 = nI 14 from (gI_fillN (by decide)).trans hn]; rfl)
      refine wh_iconst (pc := 49) (v := 0) d_Md_note_49 (by decide) ?_
      refine wh_istore_n (pc := 50) (ls2 := [_, _]) d_Md_note_50 rfl (by decide) rfl rfl ?_
      refine wh_eq (wh_loop 24 (fun i => [some (.ref 42), some (.int (nI i))]) (fun i => fillO ((sI (bkN h 312) 42 17 (nI 13))) 50 (24 * 13) (fun k => gI ((sI (bkN h 312) 42 17 (nI 13))) 48 k) i) (fun _ => True) ?_ ?_ 0 (Nat.zero_le _) trivial) ?_ rfl (fo_0 _ _ _ _).symm
      · intro _
        refine wh_iload_n (pc := 51) d_Md_note_51 rfl rfl ?_
        refine wh_bipush (pc := 52) (v := 24) d_Md_note_52 (by decide) ?_
        refine wh_icmp_ge (pc := 54) (tgt := 83) d_Md_note_54 (by decide) (fun c_54 => ?_) (fun c_54 => absurd (by decide) c_54)
        refine wh_aload_n (pc := 83) d_Md_note_83 rfl rfl ?_
        refine wh_dup (pc := 84) d_Md_note_84 rfl ?_
        refine gf_Md_119 (pc := 85) rfl d_Md_note_85 ?_
        refine wh_iconst (pc := 88) (v := 1) d_Md_note_88 (by decide) ?_
        refine wh_iadd (pc := 89) d_Md_note_89 ?_
        refine pf_Md_119 (pc := 90) rfl d_Md_note_90 ?_
        refine wh_vret (pc := 93) d_Md_note_93 rfl ?_
        refine ⟨rfl, ?_⟩
        rw [hg]
        rw [fo_N (by decide), hna]
        refine ⟨?_, rfl, fun i hi j hj => ?_, fun j hj => ?_, fun c j q => ?_⟩
        · rw [gI_sS]; rfl
        · rw [gI_sN (by decide), fo_O (Or.inl (by show 24 * i + j < 24 * 13; have : i + 1 < 14 := hi; omega))]
          show gI (sI (bkN h 312) 42 17 (nI 13)) 50 _ = _
          have h13 : i + 1 < 14 := hi
          rw [gI_sN (by decide)]
          unfold bkN
          rw [gI_fillY (by omega)]
          show gI h 50 (24 * i + j + 24) = gI h 50 (24 * (i + 1) + j)
          rw [show 24 * i + j + 24 = 24 * (i + 1) + j by omega]
        · show gI _ 50 (24 * 13 + j) = _
          rw [gI_sN (by decide), fo_Y hj, gI_sN (by decide)]
          exact gI_fillN (by decide)
        · rw [gI_sI, if_neg (fun z => q (Or.inl z)), fo_N (by omega), gI_sI, if_neg (fun z => q (Or.inl z))]
          exact gI_fillN (by omega)
      · intro i hi _ ih
        refine wh_iload_n (pc := 51) d_Md_note_51 rfl rfl ?_
        refine wh_bipush (pc := 52) (v := 24) d_Md_note_52 (by decide) ?_
        refine wh_icmp_ge (pc := 54) (tgt := 83) d_Md_note_54 (by decide) (fun c_54 => absurd c_54 (nI_ge hi (by decide))) (fun c_54 => ?_)
        refine wh_aload_n (pc := 57) d_Md_note_57 rfl rfl ?_
        refine gf_Md_31 (pc := 58) rfl d_Md_note_58 ?_
        refine wh_bipush (pc := 61) (v := 24) d_Md_note_61 (by decide) ?_
        refine wh_aload_n (pc := 63) d_Md_note_63 rfl rfl ?_
        refine gf_Md_119 (pc := 64) rfl d_Md_note_64 ?_
        refine wh_imul (pc := 67) d_Md_note_67 ?_
        refine wh_iload_n (pc := 68) d_Md_note_68 rfl rfl ?_
        refine wh_iadd (pc := 69) d_Md_note_69 ?_
        refine wh_aload_n (pc := 70) d_Md_note_70 rfl rfl ?_
        refine gf_Md_25 (pc := 71) rfl d_Md_note_71 ?_
        refine wh_iload_n (pc := 74) d_Md_note_74 rfl rfl ?_
        refine wh_iald (pc := 75) d_Md_note_75 rfl (by first | exact in_nI (by omega) (by omega) | (rw [fo_N (by decide), hna, m24]; exact in_nI (by omega) (by omega))) ?_
        refine wh_iast (pc := 76) d_Md_note_76 rfl (by first | exact in_nI (by omega) (by omega) | (rw [fo_N (by decide), hna, m24]; exact in_nI (by omega) (by omega))) ?_
        refine wh_iinc (pc := 77) (ls2 := [_, _]) d_Md_note_77 rfl (nI_inc _) (by decide) rfl rfl ?_
        refine wh_goto (pc := 80) (tgt := 51) d_Md_note_80 (by decide) ?_
        refine wh_eq (ih trivial) rfl rfl ?_
        rw [fo_N (by decide), hna, m24, cl_nI (by omega), cl_nI (by omega)]
        exact fo_s _ _ _ _ _ (by rw [fo_N (by decide)])
      · rfl
    · intro i hi _ ih
      refine wh_iload_n (pc := 11) d_Md_note_11 rfl rfl ?_
      refine wh_sipush (pc := 12) (v := 312) d_Md_note_12 (by decide) ?_
      refine wh_icmp_ge (pc := 15) (tgt := 39) d_Md_note_15 (by decide) (fun c_15 => absurd c_15 (nI_ge hi (by decide))) (fun c_15 => ?_)
      refine wh_aload_n (pc := 18) d_Md_note_18 rfl rfl ?_
      refine gf_Md_31 (pc := 19) rfl d_Md_note_19 ?_
      refine wh_iload_n (pc := 22) d_Md_note_22 rfl rfl ?_
      refine wh_aload_n (pc := 23) d_Md_note_23 rfl rfl ?_
      refine gf_Md_31 (pc := 24) rfl d_Md_note_24 ?_
      refine wh_iload_n (pc := 27) d_Md_note_27 rfl rfl ?_
      refine wh_bipush (pc := 28) (v := 24) d_Md_note_28 (by decide) ?_
      refine wh_iadd (pc := 30) d_Md_note_30 ?_
      refine wh_iald (pc := 31) d_Md_note_31 rfl (by first | exact in_nI (by omega) (by omega) | (rw [a24]; exact in_nI (by omega) (by omega))) ?_
      refine wh_iast (pc := 32) d_Md_note_32 rfl (by first | exact in_nI (by omega) (by omega) | (rw [a24]; exact in_nI (by omega) (by omega))) ?_
      refine wh_iinc (pc := 33) (ls2 := [_, _]) d_Md_note_33 rfl (nI_inc _) (by decide) rfl rfl ?_
      refine wh_goto (pc := 36) (tgt := 11) d_Md_note_36 (by decide) ?_
      refine wh_eq (ih trivial) rfl rfl ?_
      rw [a24, cl_nI (by omega), cl_nI (by omega)]
      refine fill_s _ _ _ _ ?_
      exact gI_fillO (by omega)

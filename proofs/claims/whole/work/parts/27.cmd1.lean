theorem c_about {l : Launch} {D : va_G} {base : Nat} {h : Hp} (hr : Rel h) (w : Int32) : SI l D base M_Lm_about [.ref 0, .int w] h (fun h2 x => FC h h2 ∧ x = abF h w) := by
  refine SP.of [some (.ref 0), some (.int w)] (by decide) rfl (Nat.le_of_ble_eq_true rfl) ?_
  obtain ⟨hSt, hF⟩ := hr.street
  have hw5 := hF.1.1
  have hm6 := hF.2.1.1
  refine wh_iload_n (pc := 0) d_Lm_about_0 rfl rfl ?_
  by_cases q_1_0 : w = 0
  · subst q_1_0
    refine wh_tabIn (pc := 1) (tgt := 60) d_Lm_about_1 (by decide) (by decide) rfl (by decide) ?_
    refine wh_aload_n (pc := 60) d_Lm_about_60 rfl rfl ?_
    refine gf_Lm_20 (pc := 61) rfl d_Lm_about_61 ?_
    refine gf_Lm_76 (pc := 64) (Or.inl rfl) rfl d_Lm_about_64 ?_
    refine wh_iret (pc := 67) d_Lm_about_67 rfl ?_
    first | exact ⟨_, rfl, FC.rf h, rfl⟩ | exact ⟨_, rfl, fc_dues, rfl⟩ | exact ⟨_, rfl, FC.rf h, by simp only [abF, q_1_0, q_1_1, q_1_2, q_1_3, q_1_4, q_1_5, q_1_6, q_1_7, q_1_8, q_1_9, q_1_10, if_false]⟩
  by_cases q_1_1 : w = 1
  · subst q_1_1
    refine wh_tabIn (pc := 1) (tgt := 68) d_Lm_about_1 (by decide) (by decide) rfl (by decide) ?_
    refine wh_aload_n (pc := 68) d_Lm_about_68 rfl rfl ?_
    refine gf_Lm_20 (pc := 69) rfl d_Lm_about_69 ?_
    refine gf_Lm_79 (pc := 72) (Or.inl rfl) rfl d_Lm_about_72 ?_
    refine wh_iret (pc := 75) d_Lm_about_75 rfl ?_
    first | exact ⟨_, rfl, FC.rf h, rfl⟩ | exact ⟨_, rfl, fc_dues, rfl⟩ | exact ⟨_, rfl, FC.rf h, by simp only [abF, q_1_0, q_1_1, q_1_2, q_1_3, q_1_4, q_1_5, q_1_6, q_1_7, q_1_8, q_1_9, q_1_10, if_false]⟩
  by_cases q_1_2 : w = 2
  · subst q_1_2
    refine wh_tabIn (pc := 1) (tgt := 76) d_Lm_about_1 (by decide) (by decide) rfl (by decide) ?_
    refine wh_aload_n (pc := 76) d_Lm_about_76 rfl rfl ?_
    refine gf_Lm_20 (pc := 77) rfl d_Lm_about_77 ?_
    refine gf_Lm_82 (pc := 80) (Or.inl rfl) rfl d_Lm_about_80 ?_
    refine wh_iret (pc := 83) d_Lm_about_83 rfl ?_
    first | exact ⟨_, rfl, FC.rf h, rfl⟩ | exact ⟨_, rfl, fc_dues, rfl⟩ | exact ⟨_, rfl, FC.rf h, by simp only [abF, q_1_0, q_1_1, q_1_2, q_1_3, q_1_4, q_1_5, q_1_6, q_1_7, q_1_8, q_1_9, q_1_10, if_false]⟩
  by_cases q_1_3 : w = 3
  · subst q_1_3
    refine wh_tabIn (pc := 1) (tgt := 84) d_Lm_about_1 (by decide) (by decide) rfl (by decide) ?_
    refine wh_aload_n (pc := 84) d_Lm_about_84 rfl rfl ?_
    refine gf_Lm_20 (pc := 85) rfl d_Lm_about_85 ?_
    refine gf_Lm_85 (pc := 88) (Or.inl rfl) rfl d_Lm_about_88 ?_
    refine wh_iret (pc := 91) d_Lm_about_91 rfl ?_
    first | exact ⟨_, rfl, FC.rf h, rfl⟩ | exact ⟨_, rfl, fc_dues, rfl⟩ | exact ⟨_, rfl, FC.rf h, by simp only [abF, q_1_0, q_1_1, q_1_2, q_1_3, q_1_4, q_1_5, q_1_6, q_1_7, q_1_8, q_1_9, q_1_10, if_false]⟩
  by_cases q_1_4 : w = 4
  · subst q_1_4
    refine wh_tabIn (pc := 1) (tgt := 92) d_Lm_about_1 (by decide) (by decide) rfl (by decide) ?_
    refine wh_aload_n (pc := 92) d_Lm_about_92 rfl rfl ?_
    refine gf_Lm_20 (pc := 93) rfl d_Lm_about_93 ?_
    refine gf_Lm_88 (pc := 96) (Or.inl rfl) rfl d_Lm_about_96 ?_
    refine wh_iret (pc := 99) d_Lm_about_99 rfl ?_
    first | exact ⟨_, rfl, FC.rf h, rfl⟩ | exact ⟨_, rfl, fc_dues, rfl⟩ | exact ⟨_, rfl, FC.rf h, by simp only [abF, q_1_0, q_1_1, q_1_2, q_1_3, q_1_4, q_1_5, q_1_6, q_1_7, q_1_8, q_1_9, q_1_10, if_false]⟩
  by_cases q_1_5 : w = 5
  · subst q_1_5
    refine wh_tabIn (pc := 1) (tgt := 100) d_Lm_about_1 (by decide) (by decide) rfl (by decide) ?_
    refine wh_aload_n (pc := 100) d_Lm_about_100 rfl rfl ?_
    refine gf_Lm_20 (pc := 101) rfl d_Lm_about_101 ?_
    refine cv_Lm_91_d (pc := 104) (Or.inl rfl) rfl d_Lm_about_104 ⟨⟨by decide, by decide⟩, rfl, rfl⟩ (s_paid (Or.inl rfl) rfl hF) (Nat.le_of_ble_eq_true rfl) ?_
    refine wh_iret (pc := 107) d_Lm_about_107 rfl ?_
    first | exact ⟨_, rfl, FC.rf h, rfl⟩ | exact ⟨_, rfl, fc_dues, rfl⟩ | exact ⟨_, rfl, FC.rf h, by simp only [abF, q_1_0, q_1_1, q_1_2, q_1_3, q_1_4, q_1_5, q_1_6, q_1_7, q_1_8, q_1_9, q_1_10, if_false]⟩
  by_cases q_1_6 : w = 6
  · subst q_1_6
    refine wh_tabIn (pc := 1) (tgt := 108) d_Lm_about_1 (by decide) (by decide) rfl (by decide) ?_
    refine wh_aload_n (pc := 108) d_Lm_about_108 rfl rfl ?_
    refine gf_Lm_20 (pc := 109) rfl d_Lm_about_109 ?_
    refine cv_Lm_95_d (pc := 112) (Or.inl rfl) rfl d_Lm_about_112 ⟨⟨by decide, by decide⟩, rfl, rfl⟩ (s_all (Or.inl rfl) rfl hF) (Nat.le_of_ble_eq_true rfl) ?_
    refine wh_iret (pc := 115) d_Lm_about_115 rfl ?_
    first | exact ⟨_, rfl, FC.rf h, rfl⟩ | exact ⟨_, rfl, fc_dues, rfl⟩ | exact ⟨_, rfl, FC.rf h, by simp only [abF, q_1_0, q_1_1, q_1_2, q_1_3, q_1_4, q_1_5, q_1_6, q_1_7, q_1_8, q_1_9, q_1_10, if_false]⟩
  by_cases q_1_7 : w = 7
  · subst q_1_7
    refine wh_tabIn (pc := 1) (tgt := 116) d_Lm_about_1 (by decide) (by decide) rfl (by decide) ?_
    refine wh_aload_n (pc := 116) d_Lm_about_116 rfl rfl ?_
    refine gf_Lm_20 (pc := 117) rfl d_Lm_about_117 ?_
    refine cv_Lm_98_d (pc := 120) (Or.inl rfl) rfl d_Lm_about_120 ⟨⟨by decide, by decide⟩, rfl, rfl⟩ (s_readers (Or.inl rfl) rfl hF) (Nat.le_of_ble_eq_true rfl) ?_
    refine wh_iret (pc := 123) d_Lm_about_123 rfl ?_
    first | exact ⟨_, rfl, FC.rf h, rfl⟩ | exact ⟨_, rfl, fc_dues, rfl⟩ | exact ⟨_, rfl, FC.rf h, by simp only [abF, q_1_0, q_1_1, q_1_2, q_1_3, q_1_4, q_1_5, q_1_6, q_1_7, q_1_8, q_1_9, q_1_10, if_false]⟩
  by_cases q_1_8 : w = 8
  · subst q_1_8
    refine wh_tabIn (pc := 1) (tgt := 124) d_Lm_about_1 (by decide) (by decide) rfl (by decide) ?_
    refine wh_aload_n (pc := 124) d_Lm_about_124 rfl rfl ?_
    refine gf_Lm_39 (pc := 125) rfl d_Lm_about_125 ?_
    refine wh_iret (pc := 128) d_Lm_about_128 rfl ?_
    first | exact ⟨_, rfl, FC.rf h, rfl⟩ | exact ⟨_, rfl, fc_dues, rfl⟩ | exact ⟨_, rfl, FC.rf h, by simp only [abF, q_1_0, q_1_1, q_1_2, q_1_3, q_1_4, q_1_5, q_1_6, q_1_7, q_1_8, q_1_9, q_1_10, if_false]⟩
  by_cases q_1_9 : w = 9
  · subst q_1_9
    refine wh_tabIn (pc := 1) (tgt := 129) d_Lm_about_1 (by decide) (by decide) rfl (by decide) ?_
    refine wh_aload_n (pc := 129) d_Lm_about_129 rfl rfl ?_
    refine gf_Lm_58 (pc := 130) rfl d_Lm_about_130 ?_
    refine wh_iret (pc := 133) d_Lm_about_133 rfl ?_
    first | exact ⟨_, rfl, FC.rf h, rfl⟩ | exact ⟨_, rfl, fc_dues, rfl⟩ | exact ⟨_, rfl, FC.rf h, by simp only [abF, q_1_0, q_1_1, q_1_2, q_1_3, q_1_4, q_1_5, q_1_6, q_1_7, q_1_8, q_1_9, q_1_10, if_false]⟩
  by_cases q_1_10 : w = 10
  · subst q_1_10
    refine wh_tabIn (pc := 1) (tgt := 134) d_Lm_about_1 (by decide) (by decide) rfl (by decide) ?_
    refine wh_aload_n (pc := 134) d_Lm_about_134 rfl rfl ?_
    refine gf_Lm_13 (pc := 135) rfl d_Lm_about_135 ?_
    refine wh_iret (pc := 138) d_Lm_about_138 rfl ?_
    first | exact ⟨_, rfl, FC.rf h, rfl⟩ | exact ⟨_, rfl, fc_dues, rfl⟩ | exact ⟨_, rfl, FC.rf h, by simp only [abF, q_1_0, q_1_1, q_1_2, q_1_3, q_1_4, q_1_5, q_1_6, q_1_7, q_1_8, q_1_9, q_1_10, if_false]⟩
  refine wh_tabOut (pc := 1) (tgt := 139) d_Lm_about_1 (by have t0 := lv_neT q_1_0 (a := 0) (by decide); have t1 := lv_neT q_1_1 (a := 1) (by decide); have t2 := lv_neT q_1_2 (a := 2) (by decide); have t3 := lv_neT q_1_3 (a := 3) (by decide); have t4 := lv_neT q_1_4 (a := 4) (by decide); have t5 := lv_neT q_1_5 (a := 5) (by decide); have t6 := lv_neT q_1_6 (a := 6) (by decide); have t7 := lv_neT q_1_7 (a := 7) (by decide); have t8 := lv_neT q_1_8 (a := 8) (by decide); have t9 := lv_neT q_1_9 (a := 9) (by decide); have t10 := lv_neT q_1_10 (a := 10) (by decide); omega) (by decide) ?_
  refine wh_bipush (pc := 139) (v := (-2)) d_Lm_about_139 (by decide) ?_
  refine wh_iret (pc := 141) d_Lm_about_141 rfl ?_
  first | exact ⟨_, rfl, FC.rf h, rfl⟩ | exact ⟨_, rfl, fc_dues, rfl⟩ | exact ⟨_, rfl, FC.rf h, by simp only [abF, q_1_0, q_1_1, q_1_2, q_1_3, q_1_4, q_1_5, q_1_6, q_1_7, q_1_8, q_1_9, q_1_10, if_false]⟩
theorem r_about {l : Launch} {D : va_G} {base : Nat} {h : Hp} (hr : Rel h) (w : Int32) : SI l D base M_Md_about [.ref 42, .int w] h (fun h2 x => FM h h2 ∧ x = abF h w) := by
  refine SP.of [some (.ref 42), some (.int w)] (by decide) rfl (Nat.le_of_ble_eq_true rfl) ?_
  obtain ⟨hSt, hF⟩ := hr.street
  have hw5 := hF.1.1
  have hm6 := hF.2.1.1
  have hF8 : WFS (pageS h 48) := by rw [← hSt]; exact hF
  have hP0 : pageS (sI h 42 0 0) 48 = pageS h 48 := fm_page fm_thr
  have hw := hr.w
  have e0 : ∀ c j, c ≠ 42 → gI (sI h 42 0 0) c j = gI h c j := fun c j q => gI_sN q
  refine wh_aload_n (pc := 0) d_Md_about_0 rfl rfl ?_
  refine wh_iconst (pc := 1) (v := 0) d_Md_about_1 (by decide) ?_
  refine pf_Md_62 (pc := 2) rfl d_Md_about_2 ?_
  refine wh_iload_n (pc := 5) d_Md_about_5 rfl rfl ?_
  by_cases q_6_0 : w = 0
  · subst q_6_0
    refine wh_tabIn (pc := 6) (tgt := 64) d_Md_about_6 (by decide) (by decide) rfl (by decide) ?_
    refine wh_aload_n (pc := 64) d_Md_about_64 rfl rfl ?_
    refine gf_Md_66 (pc := 65) rfl d_Md_about_65 ?_
    refine wh_iret (pc := 68) d_Md_about_68 rfl ?_
    first
      | exact ⟨_, rfl, fm_thr, hw.1⟩
      | exact ⟨_, rfl, fm_thr, hw.2.1⟩
      | exact ⟨_, rfl, fm_thr, hw.2.2.1⟩
      | exact ⟨_, rfl, fm_thr, hw.2.2.2.1⟩
      | exact ⟨_, rfl, fm_thr, hw.2.2.2.2.1⟩
      | exact ⟨_, rfl, fm_thr, hr.paid.1.symm⟩
      | exact ⟨_, rfl, fm_thr.tr fm_lay, by rw [← hSt]; rfl⟩
      | exact ⟨_, rfl, fm_thr, by rw [← hSt]; rfl⟩
      | exact ⟨_, rfl, fm_thr, hw.2.2.2.2.2.1⟩
      | exact ⟨_, rfl, fm_thr, hw.2.2.2.2.2.2.1⟩
      | exact ⟨_, rfl, fm_thr, hw.2.2.2.2.2.2.2⟩
      | exact ⟨_, rfl, fm_thr, by simp only [abF, q_6_0, q_6_1, q_6_2, q_6_3, q_6_4, q_6_5, q_6_6, q_6_7, q_6_8, q_6_9, q_6_10, if_false]⟩
  by_cases q_6_1 : w = 1
  · subst q_6_1
    refine wh_tabIn (pc := 6) (tgt := 69) d_Md_about_6 (by decide) (by decide) rfl (by decide) ?_
    refine wh_aload_n (pc := 69) d_Md_about_69 rfl rfl ?_
    refine gf_Md_73 (pc := 70) rfl d_Md_about_70 ?_
    refine wh_iret (pc := 73) d_Md_about_73 rfl ?_
    first
      | exact ⟨_, rfl, fm_thr, hw.1⟩
      | exact ⟨_, rfl, fm_thr, hw.2.1⟩
      | exact ⟨_, rfl, fm_thr, hw.2.2.1⟩
      | exact ⟨_, rfl, fm_thr, hw.2.2.2.1⟩
      | exact ⟨_, rfl, fm_thr, hw.2.2.2.2.1⟩
      | exact ⟨_, rfl, fm_thr, hr.paid.1.symm⟩
      | exact ⟨_, rfl, fm_thr.tr fm_lay, by rw [← hSt]; rfl⟩
      | exact ⟨_, rfl, fm_thr, by rw [← hSt]; rfl⟩
      | exact ⟨_, rfl, fm_thr, hw.2.2.2.2.2.1⟩
      | exact ⟨_, rfl, fm_thr, hw.2.2.2.2.2.2.1⟩
      | exact ⟨_, rfl, fm_thr, hw.2.2.2.2.2.2.2⟩
      | exact ⟨_, rfl, fm_thr, by simp only [abF, q_6_0, q_6_1, q_6_2, q_6_3, q_6_4, q_6_5, q_6_6, q_6_7, q_6_8, q_6_9, q_6_10, if_false]⟩
  by_cases q_6_2 : w = 2
  · subst q_6_2
    refine wh_tabIn (pc := 6) (tgt := 74) d_Md_about_6 (by decide) (by decide) rfl (by decide) ?_
    refine wh_aload_n (pc := 74) d_Md_about_74 rfl rfl ?_
    refine gf_Md_25 (pc := 75) rfl d_Md_about_75 ?_
    refine wh_bipush (pc := 78) (v := 16) d_Md_about_78 (by decide) ?_
    refine wh_iald (pc := 80) d_Md_about_80 rfl (by first | exact in_nI (by omega) (by omega) | (simp only [a0, a5, a10, a19]; exact in_nI (by omega) (by omega)) | exact vp_in_iff.mpr (by decide)) ?_
    refine wh_iret (pc := 81) d_Md_about_81 rfl ?_
    first
      | exact ⟨_, rfl, fm_thr, hw.1⟩
      | exact ⟨_, rfl, fm_thr, hw.2.1⟩
      | exact ⟨_, rfl, fm_thr, hw.2.2.1⟩
      | exact ⟨_, rfl, fm_thr, hw.2.2.2.1⟩
      | exact ⟨_, rfl, fm_thr, hw.2.2.2.2.1⟩
      | exact ⟨_, rfl, fm_thr, hr.paid.1.symm⟩
      | exact ⟨_, rfl, fm_thr.tr fm_lay, by rw [← hSt]; rfl⟩
      | exact ⟨_, rfl, fm_thr, by rw [← hSt]; rfl⟩
      | exact ⟨_, rfl, fm_thr, hw.2.2.2.2.2.1⟩
      | exact ⟨_, rfl, fm_thr, hw.2.2.2.2.2.2.1⟩
      | exact ⟨_, rfl, fm_thr, hw.2.2.2.2.2.2.2⟩
      | exact ⟨_, rfl, fm_thr, by simp only [abF, q_6_0, q_6_1, q_6_2, q_6_3, q_6_4, q_6_5, q_6_6, q_6_7, q_6_8, q_6_9, q_6_10, if_false]⟩
  by_cases q_6_3 : w = 3
  · subst q_6_3
    refine wh_tabIn (pc := 6) (tgt := 82) d_Md_about_6 (by decide) (by decide) rfl (by decide) ?_
    refine wh_aload_n (pc := 82) d_Md_about_82 rfl rfl ?_
    refine gf_Md_25 (pc := 83) rfl d_Md_about_83 ?_
    refine wh_bipush (pc := 86) (v := 17) d_Md_about_86 (by decide) ?_
    refine wh_iald (pc := 88) d_Md_about_88 rfl (by first | exact in_nI (by omega) (by omega) | (simp only [a0, a5, a10, a19]; exact in_nI (by omega) (by omega)) | exact vp_in_iff.mpr (by decide)) ?_
    refine wh_iret (pc := 89) d_Md_about_89 rfl ?_
    first
      | exact ⟨_, rfl, fm_thr, hw.1⟩
      | exact ⟨_, rfl, fm_thr, hw.2.1⟩
      | exact ⟨_, rfl, fm_thr, hw.2.2.1⟩
      | exact ⟨_, rfl, fm_thr, hw.2.2.2.1⟩
      | exact ⟨_, rfl, fm_thr, hw.2.2.2.2.1⟩
      | exact ⟨_, rfl, fm_thr, hr.paid.1.symm⟩
      | exact ⟨_, rfl, fm_thr.tr fm_lay, by rw [← hSt]; rfl⟩
      | exact ⟨_, rfl, fm_thr, by rw [← hSt]; rfl⟩
      | exact ⟨_, rfl, fm_thr, hw.2.2.2.2.2.1⟩
      | exact ⟨_, rfl, fm_thr, hw.2.2.2.2.2.2.1⟩
      | exact ⟨_, rfl, fm_thr, hw.2.2.2.2.2.2.2⟩
      | exact ⟨_, rfl, fm_thr, by simp only [abF, q_6_0, q_6_1, q_6_2, q_6_3, q_6_4, q_6_5, q_6_6, q_6_7, q_6_8, q_6_9, q_6_10, if_false]⟩
  by_cases q_6_4 : w = 4
  · subst q_6_4
    refine wh_tabIn (pc := 6) (tgt := 90) d_Md_about_6 (by decide) (by decide) rfl (by decide) ?_
    refine wh_aload_n (pc := 90) d_Md_about_90 rfl rfl ?_
    refine gf_Md_25 (pc := 91) rfl d_Md_about_91 ?_
    refine wh_bipush (pc := 94) (v := 18) d_Md_about_94 (by decide) ?_
    refine wh_iald (pc := 96) d_Md_about_96 rfl (by first | exact in_nI (by omega) (by omega) | (simp only [a0, a5, a10, a19]; exact in_nI (by omega) (by omega)) | exact vp_in_iff.mpr (by decide)) ?_
    refine wh_iret (pc := 97) d_Md_about_97 rfl ?_
    first
      | exact ⟨_, rfl, fm_thr, hw.1⟩
      | exact ⟨_, rfl, fm_thr, hw.2.1⟩
      | exact ⟨_, rfl, fm_thr, hw.2.2.1⟩
      | exact ⟨_, rfl, fm_thr, hw.2.2.2.1⟩
      | exact ⟨_, rfl, fm_thr, hw.2.2.2.2.1⟩
      | exact ⟨_, rfl, fm_thr, hr.paid.1.symm⟩
      | exact ⟨_, rfl, fm_thr.tr fm_lay, by rw [← hSt]; rfl⟩
      | exact ⟨_, rfl, fm_thr, by rw [← hSt]; rfl⟩
      | exact ⟨_, rfl, fm_thr, hw.2.2.2.2.2.1⟩
      | exact ⟨_, rfl, fm_thr, hw.2.2.2.2.2.2.1⟩
      | exact ⟨_, rfl, fm_thr, hw.2.2.2.2.2.2.2⟩
      | exact ⟨_, rfl, fm_thr, by simp only [abF, q_6_0, q_6_1, q_6_2, q_6_3, q_6_4, q_6_5, q_6_6, q_6_7, q_6_8, q_6_9, q_6_10, if_false]⟩
  by_cases q_6_5 : w = 5
  · subst q_6_5
    refine wh_tabIn (pc := 6) (tgt := 98) d_Md_about_6 (by decide) (by decide) rfl (by decide) ?_
    refine wh_aload_n (pc := 98) d_Md_about_98 rfl rfl ?_
    refine wh_aload_n (pc := 99) d_Md_about_99 rfl rfl ?_
    refine gf_Md_25 (pc := 100) rfl d_Md_about_100 ?_
    refine cv_Md_144_d (pc := 103) rfl d_Md_about_103 ⟨⟨by decide, by decide⟩, rfl, rfl⟩ (m_paid (Or.inl rfl)) (Nat.le_of_ble_eq_true rfl) ?_
    refine wh_iret (pc := 106) d_Md_about_106 rfl ?_
    first
      | exact ⟨_, rfl, fm_thr, hw.1⟩
      | exact ⟨_, rfl, fm_thr, hw.2.1⟩
      | exact ⟨_, rfl, fm_thr, hw.2.2.1⟩
      | exact ⟨_, rfl, fm_thr, hw.2.2.2.1⟩
      | exact ⟨_, rfl, fm_thr, hw.2.2.2.2.1⟩
      | exact ⟨_, rfl, fm_thr, hr.paid.1.symm⟩
      | exact ⟨_, rfl, fm_thr.tr fm_lay, by rw [← hSt]; rfl⟩
      | exact ⟨_, rfl, fm_thr, by rw [← hSt]; rfl⟩
      | exact ⟨_, rfl, fm_thr, hw.2.2.2.2.2.1⟩
      | exact ⟨_, rfl, fm_thr, hw.2.2.2.2.2.2.1⟩
      | exact ⟨_, rfl, fm_thr, hw.2.2.2.2.2.2.2⟩
      | exact ⟨_, rfl, fm_thr, by simp only [abF, q_6_0, q_6_1, q_6_2, q_6_3, q_6_4, q_6_5, q_6_6, q_6_7, q_6_8, q_6_9, q_6_10, if_false]⟩
  by_cases q_6_6 : w = 6
  · subst q_6_6
    refine wh_tabIn (pc := 6) (tgt := 107) d_Md_about_6 (by decide) (by decide) rfl (by decide) ?_
    refine wh_aload_n (pc := 107) d_Md_about_107 rfl rfl ?_
    refine wh_aload_n (pc := 108) d_Md_about_108 rfl rfl ?_
    refine gf_Md_25 (pc := 109) rfl d_Md_about_109 ?_
    refine cv_Md_148_d (pc := 112) rfl d_Md_about_112 ⟨⟨by decide, by decide⟩, rfl, rfl⟩ (m_lay (Or.inl rfl) hP0 hF8) (Nat.le_of_ble_eq_true rfl) ?_
    refine wh_iret (pc := 115) d_Md_about_115 rfl ?_
    first
      | exact ⟨_, rfl, fm_thr, hw.1⟩
      | exact ⟨_, rfl, fm_thr, hw.2.1⟩
      | exact ⟨_, rfl, fm_thr, hw.2.2.1⟩
      | exact ⟨_, rfl, fm_thr, hw.2.2.2.1⟩
      | exact ⟨_, rfl, fm_thr, hw.2.2.2.2.1⟩
      | exact ⟨_, rfl, fm_thr, hr.paid.1.symm⟩
      | exact ⟨_, rfl, fm_thr.tr fm_lay, by rw [← hSt]; rfl⟩
      | exact ⟨_, rfl, fm_thr, by rw [← hSt]; rfl⟩
      | exact ⟨_, rfl, fm_thr, hw.2.2.2.2.2.1⟩
      | exact ⟨_, rfl, fm_thr, hw.2.2.2.2.2.2.1⟩
      | exact ⟨_, rfl, fm_thr, hw.2.2.2.2.2.2.2⟩
      | exact ⟨_, rfl, fm_thr, by simp only [abF, q_6_0, q_6_1, q_6_2, q_6_3, q_6_4, q_6_5, q_6_6, q_6_7, q_6_8, q_6_9, q_6_10, if_false]⟩
  by_cases q_6_7 : w = 7
  · subst q_6_7
    refine wh_tabIn (pc := 6) (tgt := 116) d_Md_about_6 (by decide) (by decide) rfl (by decide) ?_
    refine wh_aload_n (pc := 116) d_Md_about_116 rfl rfl ?_
    refine wh_aload_n (pc := 117) d_Md_about_117 rfl rfl ?_
    refine gf_Md_25 (pc := 118) rfl d_Md_about_118 ?_
    refine cv_Md_151_d (pc := 121) rfl d_Md_about_121 ⟨⟨by decide, by decide⟩, rfl, rfl⟩ (m_readers (Or.inl rfl) hP0 hF8) (Nat.le_of_ble_eq_true rfl) ?_
    refine wh_iret (pc := 124) d_Md_about_124 rfl ?_
    first
      | exact ⟨_, rfl, fm_thr, hw.1⟩
      | exact ⟨_, rfl, fm_thr, hw.2.1⟩
      | exact ⟨_, rfl, fm_thr, hw.2.2.1⟩
      | exact ⟨_, rfl, fm_thr, hw.2.2.2.1⟩
      | exact ⟨_, rfl, fm_thr, hw.2.2.2.2.1⟩
      | exact ⟨_, rfl, fm_thr, hr.paid.1.symm⟩
      | exact ⟨_, rfl, fm_thr.tr fm_lay, by rw [← hSt]; rfl⟩
      | exact ⟨_, rfl, fm_thr, by rw [← hSt]; rfl⟩
      | exact ⟨_, rfl, fm_thr, hw.2.2.2.2.2.1⟩
      | exact ⟨_, rfl, fm_thr, hw.2.2.2.2.2.2.1⟩
      | exact ⟨_, rfl, fm_thr, hw.2.2.2.2.2.2.2⟩
      | exact ⟨_, rfl, fm_thr, by simp only [abF, q_6_0, q_6_1, q_6_2, q_6_3, q_6_4, q_6_5, q_6_6, q_6_7, q_6_8, q_6_9, q_6_10, if_false]⟩
  by_cases q_6_8 : w = 8
  · subst q_6_8
    refine wh_tabIn (pc := 6) (tgt := 125) d_Md_about_6 (by decide) (by decide) rfl (by decide) ?_
    refine wh_aload_n (pc := 125) d_Md_about_125 rfl rfl ?_
    refine gf_Md_119 (pc := 126) rfl d_Md_about_126 ?_
    refine wh_iret (pc := 129) d_Md_about_129 rfl ?_
    first
      | exact ⟨_, rfl, fm_thr, hw.1⟩
      | exact ⟨_, rfl, fm_thr, hw.2.1⟩
      | exact ⟨_, rfl, fm_thr, hw.2.2.1⟩
      | exact ⟨_, rfl, fm_thr, hw.2.2.2.1⟩
      | exact ⟨_, rfl, fm_thr, hw.2.2.2.2.1⟩
      | exact ⟨_, rfl, fm_thr, hr.paid.1.symm⟩
      | exact ⟨_, rfl, fm_thr.tr fm_lay, by rw [← hSt]; rfl⟩
      | exact ⟨_, rfl, fm_thr, by rw [← hSt]; rfl⟩
      | exact ⟨_, rfl, fm_thr, hw.2.2.2.2.2.1⟩
      | exact ⟨_, rfl, fm_thr, hw.2.2.2.2.2.2.1⟩
      | exact ⟨_, rfl, fm_thr, hw.2.2.2.2.2.2.2⟩
      | exact ⟨_, rfl, fm_thr, by simp only [abF, q_6_0, q_6_1, q_6_2, q_6_3, q_6_4, q_6_5, q_6_6, q_6_7, q_6_8, q_6_9, q_6_10, if_false]⟩
  by_cases q_6_9 : w = 9
  · subst q_6_9
    refine wh_tabIn (pc := 6) (tgt := 130) d_Md_about_6 (by decide) (by decide) rfl (by decide) ?_
    refine wh_aload_n (pc := 130) d_Md_about_130 rfl rfl ?_
    refine gf_Md_154 (pc := 131) rfl d_Md_about_131 ?_
    refine wh_iret (pc := 134) d_Md_about_134 rfl ?_
    first
      | exact ⟨_, rfl, fm_thr, hw.1⟩
      | exact ⟨_, rfl, fm_thr, hw.2.1⟩
      | exact ⟨_, rfl, fm_thr, hw.2.2.1⟩
      | exact ⟨_, rfl, fm_thr, hw.2.2.2.1⟩
      | exact ⟨_, rfl, fm_thr, hw.2.2.2.2.1⟩
      | exact ⟨_, rfl, fm_thr, hr.paid.1.symm⟩
      | exact ⟨_, rfl, fm_thr.tr fm_lay, by rw [← hSt]; rfl⟩
      | exact ⟨_, rfl, fm_thr, by rw [← hSt]; rfl⟩
      | exact ⟨_, rfl, fm_thr, hw.2.2.2.2.2.1⟩
      | exact ⟨_, rfl, fm_thr, hw.2.2.2.2.2.2.1⟩
      | exact ⟨_, rfl, fm_thr, hw.2.2.2.2.2.2.2⟩
      | exact ⟨_, rfl, fm_thr, by simp only [abF, q_6_0, q_6_1, q_6_2, q_6_3, q_6_4, q_6_5, q_6_6, q_6_7, q_6_8, q_6_9, q_6_10, if_false]⟩
  by_cases q_6_10 : w = 10
  · subst q_6_10
    refine wh_tabIn (pc := 6) (tgt := 135) d_Md_about_6 (by decide) (by decide) rfl (by decide) ?_
    refine wh_aload_n (pc := 135) d_Md_about_135 rfl rfl ?_
    refine gf_Md_78 (pc := 136) rfl d_Md_about_136 ?_
    refine wh_iret (pc := 139) d_Md_about_139 rfl ?_
    first
      | exact ⟨_, rfl, fm_thr, hw.1⟩
      | exact ⟨_, rfl, fm_thr, hw.2.1⟩
      | exact ⟨_, rfl, fm_thr, hw.2.2.1⟩
      | exact ⟨_, rfl, fm_thr, hw.2.2.2.1⟩
      | exact ⟨_, rfl, fm_thr, hw.2.2.2.2.1⟩
      | exact ⟨_, rfl, fm_thr, hr.paid.1.symm⟩
      | exact ⟨_, rfl, fm_thr.tr fm_lay, by rw [← hSt]; rfl⟩
      | exact ⟨_, rfl, fm_thr, by rw [← hSt]; rfl⟩
      | exact ⟨_, rfl, fm_thr, hw.2.2.2.2.2.1⟩
      | exact ⟨_, rfl, fm_thr, hw.2.2.2.2.2.2.1⟩
      | exact ⟨_, rfl, fm_thr, hw.2.2.2.2.2.2.2⟩
      | exact ⟨_, rfl, fm_thr, by simp only [abF, q_6_0, q_6_1, q_6_2, q_6_3, q_6_4, q_6_5, q_6_6, q_6_7, q_6_8, q_6_9, q_6_10, if_false]⟩
  refine wh_tabOut (pc := 6) (tgt := 140) d_Md_about_6 (by have t0 := lv_neT q_6_0 (a := 0) (by decide); have t1 := lv_neT q_6_1 (a := 1) (by decide); have t2 := lv_neT q_6_2 (a := 2) (by decide); have t3 := lv_neT q_6_3 (a := 3) (by decide); have t4 := lv_neT q_6_4 (a := 4) (by decide); have t5 := lv_neT q_6_5 (a := 5) (by decide); have t6 := lv_neT q_6_6 (a := 6) (by decide); have t7 := lv_neT q_6_7 (a := 7) (by decide); have t8 := lv_neT q_6_8 (a := 8) (by decide); have t9 := lv_neT q_6_9 (a := 9) (by decide); have t10 := lv_neT q_6_10 (a := 10) (by decide); omega) (by decide) ?_
  refine wh_bipush (pc := 140) (v := (-2)) d_Md_about_140 (by decide) ?_
  refine wh_iret (pc := 142) d_Md_about_142 rfl ?_
  first
    | exact ⟨_, rfl, fm_thr, hw.1⟩
    | exact ⟨_, rfl, fm_thr, hw.2.1⟩
    | exact ⟨_, rfl, fm_thr, hw.2.2.1⟩
    | exact ⟨_, rfl, fm_thr, hw.2.2.2.1⟩
    | exact ⟨_, rfl, fm_thr, hw.2.2.2.2.1⟩
    | exact ⟨_, rfl, fm_thr, hr.paid.1.symm⟩
    | exact ⟨_, rfl, fm_thr.tr fm_lay, by rw [← hSt]; rfl⟩
    | exact ⟨_, rfl, fm_thr, by rw [← hSt]; rfl⟩
    | exact ⟨_, rfl, fm_thr, hw.2.2.2.2.2.1⟩
    | exact ⟨_, rfl, fm_thr, hw.2.2.2.2.2.2.1⟩
    | exact ⟨_, rfl, fm_thr, hw.2.2.2.2.2.2.2⟩
    | exact ⟨_, rfl, fm_thr, by simp only [abF, q_6_0, q_6_1, q_6_2, q_6_3, q_6_4, q_6_5, q_6_6, q_6_7, q_6_8, q_6_9, q_6_10, if_false]⟩
theorem c_window {l : Launch} {D : va_G} {base : Nat} {h : Hp} (hr : Rel h) (w t : Int32) : SI l D base M_Lm_window [.ref 0, .int w, .int t] h (fun h2 x => FC h h2 ∧ x = wiF h w t) := by
  refine SP.of [some (.ref 0), some (.int w), some (.int t)] (by decide) rfl (Nat.le_of_ble_eq_true rfl) ?_
  obtain ⟨hSt, hF⟩ := hr.street
  have hw5 := hF.1.1
  have hm6 := hF.2.1.1
  rcases bI_two (w := w) (n := nW (laneS h 2)) (by omega) with hz | ⟨k, hk, rfl⟩
  · refine wh_aload_n (pc := 0) d_Lm_window_0 rfl rfl ?_
    refine gf_Lm_20 (pc := 1) rfl d_Lm_window_1 ?_
    refine wh_iload_n (pc := 4) d_Lm_window_4 rfl rfl ?_
    refine cv_Lm_101_d (pc := 5) (Or.inl rfl) rfl d_Lm_window_5 ⟨⟨by decide, by decide⟩, rfl, rfl⟩ (s_hasWindow (Or.inl rfl) (wf_w hF) hw5) (Nat.le_of_ble_eq_true rfl) ?_
    refine wh_if_ne (pc := 8) (tgt := 13) d_Lm_window_8 (by decide) (fun c_8 => absurd hz c_8) (fun c_8 => ?_)
    refine wh_iconst (pc := 11) (v := (-1)) d_Lm_window_11 (by decide) ?_
    refine wh_iret (pc := 12) d_Lm_window_12 rfl ?_
    exact ⟨_, rfl, FC.rf h, by unfold wiF; rw [if_pos hz]⟩
  · have hck := cl_nI (show k < 2 ^ 31 by omega)
    have hz := bI_k hk (show nW (laneS h 2) < 2 ^ 31 by omega)
    refine wh_aload_n (pc := 0) d_Lm_window_0 rfl rfl ?_
    refine gf_Lm_20 (pc := 1) rfl d_Lm_window_1 ?_
    refine wh_iload_n (pc := 4) d_Lm_window_4 rfl rfl ?_
    refine cv_Lm_101_d (pc := 5) (Or.inl rfl) rfl d_Lm_window_5 ⟨⟨by decide, by decide⟩, rfl, rfl⟩ (s_hasWindow (Or.inl rfl) (wf_w hF) hw5) (Nat.le_of_ble_eq_true rfl) ?_
    refine wh_if_ne (pc := 8) (tgt := 13) d_Lm_window_8 (by decide) (fun c_8 => ?_) (fun c_8 => absurd c_8 hz)
    refine wh_iload_n (pc := 13) d_Lm_window_13 rfl rfl ?_
    by_cases q_14_0 : t = 0
    · subst q_14_0
      refine wh_tabIn (pc := 14) (tgt := 56) d_Lm_window_14 (by decide) (by decide) rfl (by decide) ?_
      refine wh_aload_n (pc := 56) d_Lm_window_56 rfl rfl ?_
      refine gf_Lm_20 (pc := 57) rfl d_Lm_window_57 ?_
      refine gf_Lm_105 (pc := 60) (Or.inl rfl) rfl d_Lm_window_60 ?_
      refine wh_iload_n (pc := 63) d_Lm_window_63 rfl rfl ?_
      refine wh_iald (pc := 64) d_Lm_window_64 (la_spots (Or.inl rfl)) (in_nI (by omega) (by omega)) ?_
      refine wh_iret (pc := 65) d_Lm_window_65 rfl ?_
      unfold wiF
      rw [if_neg hz]
      simp only [hck] at *
      first
        | exact ⟨_, rfl, FC.rf h, la0 hk⟩
        | exact ⟨_, rfl, FC.rf h, la1 hk⟩
        | exact ⟨_, rfl, FC.rf h, la2 hk⟩
        | exact ⟨_, rfl, fc_dues, rfl⟩
        | exact ⟨_, rfl, FC.rf h, rfl⟩
        | exact ⟨_, rfl, FC.rf h, by cases zz : readF (laneS h 2) k; (first | rfl | (rw [zz] at c_122; exact absurd rfl c_122)); (first | rfl | (rw [zz] at c_122; exact absurd c_122 (by decide)))⟩
        | exact ⟨_, rfl, FC.rf h, by simp only [q_14_0, q_14_1, q_14_2, q_14_3, q_14_4, q_14_5, q_14_6, if_false]⟩
    by_cases q_14_1 : t = 1
    · subst q_14_1
      refine wh_tabIn (pc := 14) (tgt := 66) d_Lm_window_14 (by decide) (by decide) rfl (by decide) ?_
      refine wh_aload_n (pc := 66) d_Lm_window_66 rfl rfl ?_
      refine gf_Lm_20 (pc := 67) rfl d_Lm_window_67 ?_
      refine gf_Lm_108 (pc := 70) (Or.inl rfl) rfl d_Lm_window_70 ?_
      refine wh_iload_n (pc := 73) d_Lm_window_73 rfl rfl ?_
      refine wh_iald (pc := 74) d_Lm_window_74 (la_burns (Or.inl rfl)) (in_nI (by omega) (by omega)) ?_
      refine wh_iret (pc := 75) d_Lm_window_75 rfl ?_
      unfold wiF
      rw [if_neg hz]
      simp only [hck] at *
      first
        | exact ⟨_, rfl, FC.rf h, la0 hk⟩
        | exact ⟨_, rfl, FC.rf h, la1 hk⟩
        | exact ⟨_, rfl, FC.rf h, la2 hk⟩
        | exact ⟨_, rfl, fc_dues, rfl⟩
        | exact ⟨_, rfl, FC.rf h, rfl⟩
        | exact ⟨_, rfl, FC.rf h, by cases zz : readF (laneS h 2) k; (first | rfl | (rw [zz] at c_122; exact absurd rfl c_122)); (first | rfl | (rw [zz] at c_122; exact absurd c_122 (by decide)))⟩
        | exact ⟨_, rfl, FC.rf h, by simp only [q_14_0, q_14_1, q_14_2, q_14_3, q_14_4, q_14_5, q_14_6, if_false]⟩
    by_cases q_14_2 : t = 2
    · subst q_14_2
      refine wh_tabIn (pc := 14) (tgt := 76) d_Lm_window_14 (by decide) (by decide) rfl (by decide) ?_
      refine wh_aload_n (pc := 76) d_Lm_window_76 rfl rfl ?_
      refine gf_Lm_20 (pc := 77) rfl d_Lm_window_77 ?_
      refine gf_Lm_111 (pc := 80) (Or.inl rfl) rfl d_Lm_window_80 ?_
      refine wh_iload_n (pc := 83) d_Lm_window_83 rfl rfl ?_
      refine wh_iald (pc := 84) d_Lm_window_84 (la_kinds (Or.inl rfl)) (in_nI (by omega) (by omega)) ?_
      refine wh_iret (pc := 85) d_Lm_window_85 rfl ?_
      unfold wiF
      rw [if_neg hz]
      simp only [hck] at *
      first
        | exact ⟨_, rfl, FC.rf h, la0 hk⟩
        | exact ⟨_, rfl, FC.rf h, la1 hk⟩
        | exact ⟨_, rfl, FC.rf h, la2 hk⟩
        | exact ⟨_, rfl, fc_dues, rfl⟩
        | exact ⟨_, rfl, FC.rf h, rfl⟩
        | exact ⟨_, rfl, FC.rf h, by cases zz : readF (laneS h 2) k; (first | rfl | (rw [zz] at c_122; exact absurd rfl c_122)); (first | rfl | (rw [zz] at c_122; exact absurd c_122 (by decide)))⟩
        | exact ⟨_, rfl, FC.rf h, by simp only [q_14_0, q_14_1, q_14_2, q_14_3, q_14_4, q_14_5, q_14_6, if_false]⟩
    by_cases q_14_3 : t = 3
    · subst q_14_3
      refine wh_tabIn (pc := 14) (tgt := 86) d_Lm_window_14 (by decide) (by decide) rfl (by decide) ?_
      refine wh_aload_n (pc := 86) d_Lm_window_86 rfl rfl ?_
      refine gf_Lm_20 (pc := 87) rfl d_Lm_window_87 ?_
      refine wh_iload_n (pc := 90) d_Lm_window_90 rfl rfl ?_
      refine cv_Lm_114_d (pc := 91) (Or.inl rfl) rfl d_Lm_window_91 ⟨⟨by decide, by decide⟩, rfl, rfl⟩ (s_owedBy (Or.inl rfl) rfl hF hk) (Nat.le_of_ble_eq_true rfl) ?_
      refine wh_iret (pc := 94) d_Lm_window_94 rfl ?_
      unfold wiF
      rw [if_neg hz]
      simp only [hck] at *
      first
        | exact ⟨_, rfl, FC.rf h, la0 hk⟩
        | exact ⟨_, rfl, FC.rf h, la1 hk⟩
        | exact ⟨_, rfl, FC.rf h, la2 hk⟩
        | exact ⟨_, rfl, fc_dues, rfl⟩
        | exact ⟨_, rfl, FC.rf h, rfl⟩
        | exact ⟨_, rfl, FC.rf h, by cases zz : readF (laneS h 2) k; (first | rfl | (rw [zz] at c_122; exact absurd rfl c_122)); (first | rfl | (rw [zz] at c_122; exact absurd c_122 (by decide)))⟩
        | exact ⟨_, rfl, FC.rf h, by simp only [q_14_0, q_14_1, q_14_2, q_14_3, q_14_4, q_14_5, q_14_6, if_false]⟩
    by_cases q_14_4 : t = 4
    · subst q_14_4
      refine wh_tabIn (pc := 14) (tgt := 95) d_Lm_window_14 (by decide) (by decide) rfl (by decide) ?_
      refine wh_aload_n (pc := 95) d_Lm_window_95 rfl rfl ?_
      refine gf_Lm_20 (pc := 96) rfl d_Lm_window_96 ?_
      refine gf_Lm_118 (pc := 99) (Or.inl rfl) rfl d_Lm_window_99 ?_
      refine wh_iload_n (pc := 102) d_Lm_window_102 rfl rfl ?_
      refine wh_iald (pc := 103) d_Lm_window_103 (la_paid (Or.inl rfl)) (in_nI (by omega) (by omega)) ?_
      refine wh_iret (pc := 104) d_Lm_window_104 rfl ?_
      unfold wiF
      rw [if_neg hz]
      simp only [hck] at *
      first
        | exact ⟨_, rfl, FC.rf h, la0 hk⟩
        | exact ⟨_, rfl, FC.rf h, la1 hk⟩
        | exact ⟨_, rfl, FC.rf h, la2 hk⟩
        | exact ⟨_, rfl, fc_dues, rfl⟩
        | exact ⟨_, rfl, FC.rf h, rfl⟩
        | exact ⟨_, rfl, FC.rf h, by cases zz : readF (laneS h 2) k; (first | rfl | (rw [zz] at c_122; exact absurd rfl c_122)); (first | rfl | (rw [zz] at c_122; exact absurd c_122 (by decide)))⟩
        | exact ⟨_, rfl, FC.rf h, by simp only [q_14_0, q_14_1, q_14_2, q_14_3, q_14_4, q_14_5, q_14_6, if_false]⟩
    by_cases q_14_5 : t = 5
    · subst q_14_5
      refine wh_tabIn (pc := 14) (tgt := 105) d_Lm_window_14 (by decide) (by decide) rfl (by decide) ?_
      refine wh_aload_n (pc := 105) d_Lm_window_105 rfl rfl ?_
      refine gf_Lm_20 (pc := 106) rfl d_Lm_window_106 ?_
      refine wh_iload_n (pc := 109) d_Lm_window_109 rfl rfl ?_
      refine cv_Lm_121_d (pc := 110) (Or.inl rfl) rfl d_Lm_window_110 ⟨⟨by decide, by decide⟩, rfl, rfl⟩ (s_drawn (Or.inl rfl) rfl hF hk) (Nat.le_of_ble_eq_true rfl) ?_
      refine wh_iret (pc := 113) d_Lm_window_113 rfl ?_
      unfold wiF
      rw [if_neg hz]
      simp only [hck] at *
      first
        | exact ⟨_, rfl, FC.rf h, la0 hk⟩
        | exact ⟨_, rfl, FC.rf h, la1 hk⟩
        | exact ⟨_, rfl, FC.rf h, la2 hk⟩
        | exact ⟨_, rfl, fc_dues, rfl⟩
        | exact ⟨_, rfl, FC.rf h, rfl⟩
        | exact ⟨_, rfl, FC.rf h, by cases zz : readF (laneS h 2) k; (first | rfl | (rw [zz] at c_122; exact absurd rfl c_122)); (first | rfl | (rw [zz] at c_122; exact absurd c_122 (by decide)))⟩
        | exact ⟨_, rfl, FC.rf h, by simp only [q_14_0, q_14_1, q_14_2, q_14_3, q_14_4, q_14_5, q_14_6, if_false]⟩
    by_cases q_14_6 : t = 6
    · subst q_14_6
      refine wh_tabIn (pc := 14) (tgt := 114) d_Lm_window_14 (by decide) (by decide) rfl (by decide) ?_
      refine wh_aload_n (pc := 114) d_Lm_window_114 rfl rfl ?_
      refine gf_Lm_20 (pc := 115) rfl d_Lm_window_115 ?_
      refine wh_iload_n (pc := 118) d_Lm_window_118 rfl rfl ?_
      refine cv_Lm_124_d (pc := 119) (Or.inl rfl) rfl d_Lm_window_119 ⟨⟨by decide, by decide⟩, rfl, rfl⟩ (s_reads (Or.inl rfl) rfl hF hk) (Nat.le_of_ble_eq_true rfl) ?_
      refine wh_if_eq (pc := 122) (tgt := 129) d_Lm_window_122 (by decide) (fun c_122 => ?_) (fun c_122 => ?_)
      · refine wh_iconst (pc := 129) (v := 0) d_Lm_window_129 (by decide) ?_
        refine wh_iret (pc := 130) d_Lm_window_130 rfl ?_
        unfold wiF
        rw [if_neg hz]
        simp only [hck] at *
        first
          | exact ⟨_, rfl, FC.rf h, la0 hk⟩
          | exact ⟨_, rfl, FC.rf h, la1 hk⟩
          | exact ⟨_, rfl, FC.rf h, la2 hk⟩
          | exact ⟨_, rfl, fc_dues, rfl⟩
          | exact ⟨_, rfl, FC.rf h, rfl⟩
          | exact ⟨_, rfl, FC.rf h, by cases zz : readF (laneS h 2) k; (first | rfl | (rw [zz] at c_122; exact absurd rfl c_122)); (first | rfl | (rw [zz] at c_122; exact absurd c_122 (by decide)))⟩
          | exact ⟨_, rfl, FC.rf h, by simp only [q_14_0, q_14_1, q_14_2, q_14_3, q_14_4, q_14_5, q_14_6, if_false]⟩
      · refine wh_iconst (pc := 125) (v := 1) d_Lm_window_125 (by decide) ?_
        refine wh_goto (pc := 126) (tgt := 130) d_Lm_window_126 (by decide) ?_
        refine wh_iret (pc := 130) d_Lm_window_130 rfl ?_
        unfold wiF
        rw [if_neg hz]
        simp only [hck] at *
        first
          | exact ⟨_, rfl, FC.rf h, la0 hk⟩
          | exact ⟨_, rfl, FC.rf h, la1 hk⟩
          | exact ⟨_, rfl, FC.rf h, la2 hk⟩
          | exact ⟨_, rfl, fc_dues, rfl⟩
          | exact ⟨_, rfl, FC.rf h, rfl⟩
          | exact ⟨_, rfl, FC.rf h, by cases zz : readF (laneS h 2) k; (first | rfl | (rw [zz] at c_122; exact absurd rfl c_122)); (first | rfl | (rw [zz] at c_122; exact absurd c_122 (by decide)))⟩
          | exact ⟨_, rfl, FC.rf h, by simp only [q_14_0, q_14_1, q_14_2, q_14_3, q_14_4, q_14_5, q_14_6, if_false]⟩
    refine wh_tabOut (pc := 14) (tgt := 131) d_Lm_window_14 (by have t0 := lv_neT q_14_0 (a := 0) (by decide); have t1 := lv_neT q_14_1 (a := 1) (by decide); have t2 := lv_neT q_14_2 (a := 2) (by decide); have t3 := lv_neT q_14_3 (a := 3) (by decide); have t4 := lv_neT q_14_4 (a := 4) (by decide); have t5 := lv_neT q_14_5 (a := 5) (by decide); have t6 := lv_neT q_14_6 (a := 6) (by decide); omega) (by decide) ?_
    refine wh_bipush (pc := 131) (v := (-2)) d_Lm_window_131 (by decide) ?_
    refine wh_iret (pc := 133) d_Lm_window_133 rfl ?_
    unfold wiF
    rw [if_neg hz]
    simp only [hck] at *
    first
      | exact ⟨_, rfl, FC.rf h, la0 hk⟩
      | exact ⟨_, rfl, FC.rf h, la1 hk⟩
      | exact ⟨_, rfl, FC.rf h, la2 hk⟩
      | exact ⟨_, rfl, fc_dues, rfl⟩
      | exact ⟨_, rfl, FC.rf h, rfl⟩
      | exact ⟨_, rfl, FC.rf h, by cases zz : readF (laneS h 2) k; (first | rfl | (rw [zz] at c_122; exact absurd rfl c_122)); (first | rfl | (rw [zz] at c_122; exact absurd c_122 (by decide)))⟩
      | exact ⟨_, rfl, FC.rf h, by simp only [q_14_0, q_14_1, q_14_2, q_14_3, q_14_4, q_14_5, q_14_6, if_false]⟩

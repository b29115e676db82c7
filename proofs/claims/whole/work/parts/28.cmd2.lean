theorem r_window {l : Launch} {D : va_G} {base : Nat} {h : Hp} (hr : Rel h) (w t : Int32) : SI l D base M_Md_window [.ref 42, .int w, .int t] h (fun h2 x => FM h h2 ∧ x = wiF h w t) := by
  refine SP.of [some (.ref 42), some (.int w), some (.int t), none, none] (by decide) rfl (Nat.le_of_ble_eq_true rfl) ?_
  obtain ⟨hSt, hF⟩ := hr.street
  have hw5 := hF.1.1
  have hm6 := hF.2.1.1
  have hF8 : WFS (pageS h 48) := by rw [← hSt]; exact hF
  have hP0 : pageS (sI h 42 0 0) 48 = pageS h 48 := fm_page fm_thr
  have hw := hr.w
  rw [hSt] at hw5 hm6
  rcases bI_two (w := w) (n := nW (pageS h 48)) (by omega) with hz | ⟨k, hk, rfl⟩
  · refine wh_aload_n (pc := 0) d_Md_window_0 rfl rfl ?_
    refine wh_iconst (pc := 1) (v := 0) d_Md_window_1 (by decide) ?_
    refine pf_Md_62 (pc := 2) rfl d_Md_window_2 ?_
    refine wh_aload_n (pc := 5) d_Md_window_5 rfl rfl ?_
    refine wh_iload_n (pc := 6) d_Md_window_6 rfl rfl ?_
    refine cv_Md_157_d (pc := 7) rfl d_Md_window_7 ⟨⟨by decide, by decide⟩, rfl, rfl⟩ (m_noW (n := nW (pageS h 48)) (by rw [gI_sI, if_neg (by decide)]; exact pf_w hF8) (by omega)) (Nat.le_of_ble_eq_true rfl) ?_
    refine wh_if_eq (pc := 10) (tgt := 15) d_Md_window_10 (by decide) (fun c_10 => absurd c_10 (bN_n hz)) (fun c_10 => ?_)
    refine wh_iconst (pc := 13) (v := (-1)) d_Md_window_13 (by decide) ?_
    refine wh_iret (pc := 14) d_Md_window_14 rfl ?_
    exact ⟨_, rfl, fm_thr, by unfold wiF; rw [hSt, if_pos hz]⟩
  · have hck := cl_nI (show k < 2 ^ 31 by omega)
    have hzb : ¬ bI (nI k) (nW (laneS h 2)) = 0 := by rw [hSt]; exact bI_k hk (by omega)
    have hPL : pageS (layH (sI h 42 0 0) 48) 48 = pageS h 48 := by rw [page_lay (Or.inl rfl), hP0]
    have hk2 : k < nW (pageS (sI h 42 0 0) 48) := by rw [hP0]; exact hk
    have hfm : FM h (layH (sI h 42 0 0) 48) := fm_thr.tr fm_lay
    have eL : ∀ c j, c ≠ 56 → c ≠ 57 → c ≠ 42 → gI (layH (sI h 42 0 0) 48) c j = gI h c j := fun c j q1 q2 q3 => by rw [lay_N q1 q2, gI_sN q3]
    have e6 : gI (layH (sI h 42 0 0) 48) 42 6 = nI (nM (pageS h 48)) := by rw [lay_N (by decide) (by decide), gI_sI, if_neg (by decide)]; exact pf_m hF8
    have eD : ∀ i, i < nM (pageS h 48) → gI (layH (sI h 42 0 0) 48) 56 i = drawsF (pageS h 48) i := fun i hi => by rw [lay_56 (by rw [hP0]; exact hi), hP0]
    refine wh_aload_n (pc := 0) d_Md_window_0 rfl rfl ?_
    refine wh_iconst (pc := 1) (v := 0) d_Md_window_1 (by decide) ?_
    refine pf_Md_62 (pc := 2) rfl d_Md_window_2 ?_
    refine wh_aload_n (pc := 5) d_Md_window_5 rfl rfl ?_
    refine wh_iload_n (pc := 6) d_Md_window_6 rfl rfl ?_
    refine cv_Md_157_d (pc := 7) rfl d_Md_window_7 ⟨⟨by decide, by decide⟩, rfl, rfl⟩ (m_noW (n := nW (pageS h 48)) (by rw [gI_sI, if_neg (by decide)]; exact pf_w hF8) (by omega)) (Nat.le_of_ble_eq_true rfl) ?_
    refine wh_if_eq (pc := 10) (tgt := 15) d_Md_window_10 (by decide) (fun c_10 => ?_) (fun c_10 => absurd (bN_k hk (by omega)) c_10)
    refine wh_aload_n (pc := 15) d_Md_window_15 rfl rfl ?_
    refine wh_aload_n (pc := 16) d_Md_window_16 rfl rfl ?_
    refine gf_Md_25 (pc := 17) rfl d_Md_window_17 ?_
    refine cv_Md_148_d (pc := 20) rfl d_Md_window_20 ⟨⟨by decide, by decide⟩, rfl, rfl⟩ (m_lay (Or.inl rfl) hP0 hF8) (Nat.le_of_ble_eq_true rfl) ?_
    refine wh_pop (pc := 23) d_Md_window_23 rfl ?_
    refine wh_iconst (pc := 24) (v := 0) d_Md_window_24 (by decide) ?_
    refine wh_istore_n (pc := 25) (ls2 := [_, _, _, _, _]) d_Md_window_25 rfl (by decide) rfl rfl ?_
    refine wh_iconst (pc := 26) (v := 0) d_Md_window_26 (by decide) ?_
    refine wh_istore (pc := 27) (ls2 := [_, _, _, _, _]) d_Md_window_27 (by decide) rfl rfl ?_
    refine wh_eq (wh_loop (nM (pageS h 48)) (fun i => [some (.ref 42), some (.int (nI k)), some (.int t), some (.int (orN (fun j => hasB (drawsF (pageS h 48) j) k) i)), some (.int (nI i))]) (fun _ => (layH (sI h 42 0 0) 48)) (fun _ => True) ?_ ?_ 0 (Nat.zero_le _) trivial) rfl rfl rfl
    · intro _
      refine wh_iload (pc := 29) d_Md_window_29 rfl ?_
      refine wh_aload_n (pc := 31) d_Md_window_31 rfl rfl ?_
      refine gf_Md_73 (pc := 32) rfl d_Md_window_32 ?_
      refine wh_icmp_ge (pc := 35) (tgt := 69) d_Md_window_35 (by decide) (fun c_35 => ?_) (fun c_35 => absurd (by rw [e6]; exact nI_le (Nat.le_refl _) (by omega)) c_35)
      refine wh_iload_n (pc := 69) d_Md_window_69 rfl rfl ?_
      by_cases q_70_0 : t = 0
      · subst q_70_0
        refine wh_tabIn (pc := 70) (tgt := 112) d_Md_window_70 (by decide) (by decide) rfl (by decide) ?_
        refine wh_aload_n (pc := 112) d_Md_window_112 rfl rfl ?_
        refine gf_Md_25 (pc := 113) rfl d_Md_window_113 ?_
        refine wh_bipush (pc := 116) (v := 19) d_Md_window_116 (by decide) ?_
        refine wh_iload_n (pc := 118) d_Md_window_118 rfl rfl ?_
        refine wh_iadd (pc := 119) d_Md_window_119 ?_
        refine wh_iald (pc := 120) d_Md_window_120 rfl (by first | exact in_nI (by omega) (by omega) | (simp only [a0, a5, a10, a19]; exact in_nI (by omega) (by omega)) | exact vp_in_iff.mpr (by decide)) ?_
        refine wh_iret (pc := 121) d_Md_window_121 rfl ?_
        unfold wiF
        rw [if_neg hzb]
        simp only [a0, a5, a19, hck, cl_nI (show 5 + k < 2 ^ 31 by omega), cl_nI (show 19 + k < 2 ^ 31 by omega), lay_57 hk2, hP0] at *
        first
          | exact ⟨_, rfl, hfm, (eL 48 _ (by decide) (by decide) (by decide)).trans (by rw [hSt]; exact pa0 hk)⟩
          | exact ⟨_, rfl, hfm, (eL 48 _ (by decide) (by decide) (by decide)).trans (by rw [hSt]; exact pa1 hk)⟩
          | exact ⟨_, rfl, hfm, (eL 44 _ (by decide) (by decide) (by decide)).trans (by rw [hSt]; exact pa2 hk)⟩
          | exact ⟨_, rfl, hfm, by rw [hSt]; rfl⟩
          | exact ⟨_, rfl, hfm, (eL 48 _ (by decide) (by decide) (by decide)).trans (hr.paid.2 k (by rw [hSt]; exact hk)).symm⟩
          | exact ⟨_, rfl, hfm, by rw [hSt]; cases zz : readF (pageS h 48) k; (first | rfl | (rw [zz] at c_165; exact absurd rfl c_165)); (first | rfl | (rw [zz] at c_165; exact absurd c_165 (by decide)))⟩
          | exact ⟨_, rfl, hfm, by simp only [q_70_0, q_70_1, q_70_2, q_70_3, q_70_4, q_70_5, q_70_6, if_false]⟩
      by_cases q_70_1 : t = 1
      · subst q_70_1
        refine wh_tabIn (pc := 70) (tgt := 122) d_Md_window_70 (by decide) (by decide) rfl (by decide) ?_
        refine wh_aload_n (pc := 122) d_Md_window_122 rfl rfl ?_
        refine gf_Md_25 (pc := 123) rfl d_Md_window_123 ?_
        refine wh_iconst (pc := 126) (v := 0) d_Md_window_126 (by decide) ?_
        refine wh_iload_n (pc := 127) d_Md_window_127 rfl rfl ?_
        refine wh_iadd (pc := 128) d_Md_window_128 ?_
        refine wh_iald (pc := 129) d_Md_window_129 rfl (by first | exact in_nI (by omega) (by omega) | (simp only [a0, a5, a10, a19]; exact in_nI (by omega) (by omega)) | exact vp_in_iff.mpr (by decide)) ?_
        refine wh_iret (pc := 130) d_Md_window_130 rfl ?_
        unfold wiF
        rw [if_neg hzb]
        simp only [a0, a5, a19, hck, cl_nI (show 5 + k < 2 ^ 31 by omega), cl_nI (show 19 + k < 2 ^ 31 by omega), lay_57 hk2, hP0] at *
        first
          | exact ⟨_, rfl, hfm, (eL 48 _ (by decide) (by decide) (by decide)).trans (by rw [hSt]; exact pa0 hk)⟩
          | exact ⟨_, rfl, hfm, (eL 48 _ (by decide) (by decide) (by decide)).trans (by rw [hSt]; exact pa1 hk)⟩
          | exact ⟨_, rfl, hfm, (eL 44 _ (by decide) (by decide) (by decide)).trans (by rw [hSt]; exact pa2 hk)⟩
          | exact ⟨_, rfl, hfm, by rw [hSt]; rfl⟩
          | exact ⟨_, rfl, hfm, (eL 48 _ (by decide) (by decide) (by decide)).trans (hr.paid.2 k (by rw [hSt]; exact hk)).symm⟩
          | exact ⟨_, rfl, hfm, by rw [hSt]; cases zz : readF (pageS h 48) k; (first | rfl | (rw [zz] at c_165; exact absurd rfl c_165)); (first | rfl | (rw [zz] at c_165; exact absurd c_165 (by decide)))⟩
          | exact ⟨_, rfl, hfm, by simp only [q_70_0, q_70_1, q_70_2, q_70_3, q_70_4, q_70_5, q_70_6, if_false]⟩
      by_cases q_70_2 : t = 2
      · subst q_70_2
        refine wh_tabIn (pc := 70) (tgt := 131) d_Md_window_70 (by decide) (by decide) rfl (by decide) ?_
        refine wh_aload_n (pc := 131) d_Md_window_131 rfl rfl ?_
        refine gf_Md_13 (pc := 132) rfl d_Md_window_132 ?_
        refine wh_iload_n (pc := 135) d_Md_window_135 rfl rfl ?_
        refine wh_iald (pc := 136) d_Md_window_136 rfl (by first | exact in_nI (by omega) (by omega) | (simp only [a0, a5, a10, a19]; exact in_nI (by omega) (by omega)) | exact vp_in_iff.mpr (by decide)) ?_
        refine wh_iret (pc := 137) d_Md_window_137 rfl ?_
        unfold wiF
        rw [if_neg hzb]
        simp only [a0, a5, a19, hck, cl_nI (show 5 + k < 2 ^ 31 by omega), cl_nI (show 19 + k < 2 ^ 31 by omega), lay_57 hk2, hP0] at *
        first
          | exact ⟨_, rfl, hfm, (eL 48 _ (by decide) (by decide) (by decide)).trans (by rw [hSt]; exact pa0 hk)⟩
          | exact ⟨_, rfl, hfm, (eL 48 _ (by decide) (by decide) (by decide)).trans (by rw [hSt]; exact pa1 hk)⟩
          | exact ⟨_, rfl, hfm, (eL 44 _ (by decide) (by decide) (by decide)).trans (by rw [hSt]; exact pa2 hk)⟩
          | exact ⟨_, rfl, hfm, by rw [hSt]; rfl⟩
          | exact ⟨_, rfl, hfm, (eL 48 _ (by decide) (by decide) (by decide)).trans (hr.paid.2 k (by rw [hSt]; exact hk)).symm⟩
          | exact ⟨_, rfl, hfm, by rw [hSt]; cases zz : readF (pageS h 48) k; (first | rfl | (rw [zz] at c_165; exact absurd rfl c_165)); (first | rfl | (rw [zz] at c_165; exact absurd c_165 (by decide)))⟩
          | exact ⟨_, rfl, hfm, by simp only [q_70_0, q_70_1, q_70_2, q_70_3, q_70_4, q_70_5, q_70_6, if_false]⟩
      by_cases q_70_3 : t = 3
      · subst q_70_3
        refine wh_tabIn (pc := 70) (tgt := 138) d_Md_window_70 (by decide) (by decide) rfl (by decide) ?_
        refine wh_aload_n (pc := 138) d_Md_window_138 rfl rfl ?_
        refine gf_Md_53 (pc := 139) rfl d_Md_window_139 ?_
        refine wh_iload_n (pc := 142) d_Md_window_142 rfl rfl ?_
        refine wh_iald (pc := 143) d_Md_window_143 rfl (by first | exact in_nI (by omega) (by omega) | (simp only [a0, a5, a10, a19]; exact in_nI (by omega) (by omega)) | exact vp_in_iff.mpr (by decide)) ?_
        refine wh_iret (pc := 144) d_Md_window_144 rfl ?_
        unfold wiF
        rw [if_neg hzb]
        simp only [a0, a5, a19, hck, cl_nI (show 5 + k < 2 ^ 31 by omega), cl_nI (show 19 + k < 2 ^ 31 by omega), lay_57 hk2, hP0] at *
        first
          | exact ⟨_, rfl, hfm, (eL 48 _ (by decide) (by decide) (by decide)).trans (by rw [hSt]; exact pa0 hk)⟩
          | exact ⟨_, rfl, hfm, (eL 48 _ (by decide) (by decide) (by decide)).trans (by rw [hSt]; exact pa1 hk)⟩
          | exact ⟨_, rfl, hfm, (eL 44 _ (by decide) (by decide) (by decide)).trans (by rw [hSt]; exact pa2 hk)⟩
          | exact ⟨_, rfl, hfm, by rw [hSt]; rfl⟩
          | exact ⟨_, rfl, hfm, (eL 48 _ (by decide) (by decide) (by decide)).trans (hr.paid.2 k (by rw [hSt]; exact hk)).symm⟩
          | exact ⟨_, rfl, hfm, by rw [hSt]; cases zz : readF (pageS h 48) k; (first | rfl | (rw [zz] at c_165; exact absurd rfl c_165)); (first | rfl | (rw [zz] at c_165; exact absurd c_165 (by decide)))⟩
          | exact ⟨_, rfl, hfm, by simp only [q_70_0, q_70_1, q_70_2, q_70_3, q_70_4, q_70_5, q_70_6, if_false]⟩
      by_cases q_70_4 : t = 4
      · subst q_70_4
        refine wh_tabIn (pc := 70) (tgt := 145) d_Md_window_70 (by decide) (by decide) rfl (by decide) ?_
        refine wh_aload_n (pc := 145) d_Md_window_145 rfl rfl ?_
        refine gf_Md_25 (pc := 146) rfl d_Md_window_146 ?_
        refine wh_iconst (pc := 149) (v := 5) d_Md_window_149 (by decide) ?_
        refine wh_iload_n (pc := 150) d_Md_window_150 rfl rfl ?_
        refine wh_iadd (pc := 151) d_Md_window_151 ?_
        refine wh_iald (pc := 152) d_Md_window_152 rfl (by first | exact in_nI (by omega) (by omega) | (simp only [a0, a5, a10, a19]; exact in_nI (by omega) (by omega)) | exact vp_in_iff.mpr (by decide)) ?_
        refine wh_iret (pc := 153) d_Md_window_153 rfl ?_
        unfold wiF
        rw [if_neg hzb]
        simp only [a0, a5, a19, hck, cl_nI (show 5 + k < 2 ^ 31 by omega), cl_nI (show 19 + k < 2 ^ 31 by omega), lay_57 hk2, hP0] at *
        first
          | exact ⟨_, rfl, hfm, (eL 48 _ (by decide) (by decide) (by decide)).trans (by rw [hSt]; exact pa0 hk)⟩
          | exact ⟨_, rfl, hfm, (eL 48 _ (by decide) (by decide) (by decide)).trans (by rw [hSt]; exact pa1 hk)⟩
          | exact ⟨_, rfl, hfm, (eL 44 _ (by decide) (by decide) (by decide)).trans (by rw [hSt]; exact pa2 hk)⟩
          | exact ⟨_, rfl, hfm, by rw [hSt]; rfl⟩
          | exact ⟨_, rfl, hfm, (eL 48 _ (by decide) (by decide) (by decide)).trans (hr.paid.2 k (by rw [hSt]; exact hk)).symm⟩
          | exact ⟨_, rfl, hfm, by rw [hSt]; cases zz : readF (pageS h 48) k; (first | rfl | (rw [zz] at c_165; exact absurd rfl c_165)); (first | rfl | (rw [zz] at c_165; exact absurd c_165 (by decide)))⟩
          | exact ⟨_, rfl, hfm, by simp only [q_70_0, q_70_1, q_70_2, q_70_3, q_70_4, q_70_5, q_70_6, if_false]⟩
      by_cases q_70_5 : t = 5
      · subst q_70_5
        refine wh_tabIn (pc := 70) (tgt := 154) d_Md_window_70 (by decide) (by decide) rfl (by decide) ?_
        refine wh_iload_n (pc := 154) d_Md_window_154 rfl rfl ?_
        refine wh_iret (pc := 155) d_Md_window_155 rfl ?_
        unfold wiF
        rw [if_neg hzb]
        simp only [a0, a5, a19, hck, cl_nI (show 5 + k < 2 ^ 31 by omega), cl_nI (show 19 + k < 2 ^ 31 by omega), lay_57 hk2, hP0] at *
        first
          | exact ⟨_, rfl, hfm, (eL 48 _ (by decide) (by decide) (by decide)).trans (by rw [hSt]; exact pa0 hk)⟩
          | exact ⟨_, rfl, hfm, (eL 48 _ (by decide) (by decide) (by decide)).trans (by rw [hSt]; exact pa1 hk)⟩
          | exact ⟨_, rfl, hfm, (eL 44 _ (by decide) (by decide) (by decide)).trans (by rw [hSt]; exact pa2 hk)⟩
          | exact ⟨_, rfl, hfm, by rw [hSt]; rfl⟩
          | exact ⟨_, rfl, hfm, (eL 48 _ (by decide) (by decide) (by decide)).trans (hr.paid.2 k (by rw [hSt]; exact hk)).symm⟩
          | exact ⟨_, rfl, hfm, by rw [hSt]; cases zz : readF (pageS h 48) k; (first | rfl | (rw [zz] at c_165; exact absurd rfl c_165)); (first | rfl | (rw [zz] at c_165; exact absurd c_165 (by decide)))⟩
          | exact ⟨_, rfl, hfm, by simp only [q_70_0, q_70_1, q_70_2, q_70_3, q_70_4, q_70_5, q_70_6, if_false]⟩
      by_cases q_70_6 : t = 6
      · subst q_70_6
        refine wh_tabIn (pc := 70) (tgt := 156) d_Md_window_70 (by decide) (by decide) rfl (by decide) ?_
        refine wh_aload_n (pc := 156) d_Md_window_156 rfl rfl ?_
        refine wh_aload_n (pc := 157) d_Md_window_157 rfl rfl ?_
        refine gf_Md_25 (pc := 158) rfl d_Md_window_158 ?_
        refine wh_iload_n (pc := 161) d_Md_window_161 rfl rfl ?_
        refine cv_Md_140_d (pc := 162) rfl d_Md_window_162 ⟨⟨by decide, by decide⟩, rfl, rfl⟩ (m_reads (Or.inl rfl) hPL hF8 hk) (Nat.le_of_ble_eq_true rfl) ?_
        refine wh_if_eq (pc := 165) (tgt := 172) d_Md_window_165 (by decide) (fun c_165 => ?_) (fun c_165 => ?_)
        · refine wh_iconst (pc := 172) (v := 0) d_Md_window_172 (by decide) ?_
          refine wh_iret (pc := 173) d_Md_window_173 rfl ?_
          unfold wiF
          rw [if_neg hzb]
          simp only [a0, a5, a19, hck, cl_nI (show 5 + k < 2 ^ 31 by omega), cl_nI (show 19 + k < 2 ^ 31 by omega), lay_57 hk2, hP0] at *
          first
            | exact ⟨_, rfl, hfm, (eL 48 _ (by decide) (by decide) (by decide)).trans (by rw [hSt]; exact pa0 hk)⟩
            | exact ⟨_, rfl, hfm, (eL 48 _ (by decide) (by decide) (by decide)).trans (by rw [hSt]; exact pa1 hk)⟩
            | exact ⟨_, rfl, hfm, (eL 44 _ (by decide) (by decide) (by decide)).trans (by rw [hSt]; exact pa2 hk)⟩
            | exact ⟨_, rfl, hfm, by rw [hSt]; rfl⟩
            | exact ⟨_, rfl, hfm, (eL 48 _ (by decide) (by decide) (by decide)).trans (hr.paid.2 k (by rw [hSt]; exact hk)).symm⟩
            | exact ⟨_, rfl, hfm, by rw [hSt]; cases zz : readF (pageS h 48) k; (first | rfl | (rw [zz] at c_165; exact absurd rfl c_165)); (first | rfl | (rw [zz] at c_165; exact absurd c_165 (by decide)))⟩
            | exact ⟨_, rfl, hfm, by simp only [q_70_0, q_70_1, q_70_2, q_70_3, q_70_4, q_70_5, q_70_6, if_false]⟩
        · refine wh_iconst (pc := 168) (v := 1) d_Md_window_168 (by decide) ?_
          refine wh_goto (pc := 169) (tgt := 173) d_Md_window_169 (by decide) ?_
          refine wh_iret (pc := 173) d_Md_window_173 rfl ?_
          unfold wiF
          rw [if_neg hzb]
          simp only [a0, a5, a19, hck, cl_nI (show 5 + k < 2 ^ 31 by omega), cl_nI (show 19 + k < 2 ^ 31 by omega), lay_57 hk2, hP0] at *
          first
            | exact ⟨_, rfl, hfm, (eL 48 _ (by decide) (by decide) (by decide)).trans (by rw [hSt]; exact pa0 hk)⟩
            | exact ⟨_, rfl, hfm, (eL 48 _ (by decide) (by decide) (by decide)).trans (by rw [hSt]; exact pa1 hk)⟩
            | exact ⟨_, rfl, hfm, (eL 44 _ (by decide) (by decide) (by decide)).trans (by rw [hSt]; exact pa2 hk)⟩
            | exact ⟨_, rfl, hfm, by rw [hSt]; rfl⟩
            | exact ⟨_, rfl, hfm, (eL 48 _ (by decide) (by decide) (by decide)).trans (hr.paid.2 k (by rw [hSt]; exact hk)).symm⟩
            | exact ⟨_, rfl, hfm, by rw [hSt]; cases zz : readF (pageS h 48) k; (first | rfl | (rw [zz] at c_165; exact absurd rfl c_165)); (first | rfl | (rw [zz] at c_165; exact absurd c_165 (by decide)))⟩
            | exact ⟨_, rfl, hfm, by simp only [q_70_0, q_70_1, q_70_2, q_70_3, q_70_4, q_70_5, q_70_6, if_false]⟩
      refine wh_tabOut (pc := 70) (tgt := 174) d_Md_window_70 (by have t0 := lv_neT q_70_0 (a := 0) (by decide); have t1 := lv_neT q_70_1 (a := 1) (by decide); have t2 := lv_neT q_70_2 (a := 2) (by decide); have t3 := lv_neT q_70_3 (a := 3) (by decide); have t4 := lv_neT q_70_4 (a := 4) (by decide); have t5 := lv_neT q_70_5 (a := 5) (by decide); have t6 := lv_neT q_70_6 (a := 6) (by decide); omega) (by decide) ?_
      refine wh_bipush (pc := 174) (v := (-2)) d_Md_window_174 (by decide) ?_
      refine wh_iret (pc := 176) d_Md_window_176 rfl ?_
      unfold wiF
      rw [if_neg hzb]
      simp only [a0, a5, a19, hck, cl_nI (show 5 + k < 2 ^ 31 by omega), cl_nI (show 19 + k < 2 ^ 31 by omega), lay_57 hk2, hP0] at *
      first
        | exact ⟨_, rfl, hfm, (eL 48 _ (by decide) (by decide) (by decide)).trans (by rw [hSt]; exact pa0 hk)⟩
        | exact ⟨_, rfl, hfm, (eL 48 _ (by decide) (by decide) (by decide)).trans (by rw [hSt]; exact pa1 hk)⟩
        | exact ⟨_, rfl, hfm, (eL 44 _ (by decide) (by decide) (by decide)).trans (by rw [hSt]; exact pa2 hk)⟩
        | exact ⟨_, rfl, hfm, by rw [hSt]; rfl⟩
        | exact ⟨_, rfl, hfm, (eL 48 _ (by decide) (by decide) (by decide)).trans (hr.paid.2 k (by rw [hSt]; exact hk)).symm⟩
        | exact ⟨_, rfl, hfm, by rw [hSt]; cases zz : readF (pageS h 48) k; (first | rfl | (rw [zz] at c_165; exact absurd rfl c_165)); (first | rfl | (rw [zz] at c_165; exact absurd c_165 (by decide)))⟩
        | exact ⟨_, rfl, hfm, by simp only [q_70_0, q_70_1, q_70_2, q_70_3, q_70_4, q_70_5, q_70_6, if_false]⟩
    · intro i hi _ ih
      refine wh_iload (pc := 29) d_Md_window_29 rfl ?_
      refine wh_aload_n (pc := 31) d_Md_window_31 rfl rfl ?_
      refine gf_Md_73 (pc := 32) rfl d_Md_window_32 ?_
      refine wh_icmp_ge (pc := 35) (tgt := 69) d_Md_window_35 (by decide) (fun c_35 => absurd c_35 (by rw [e6]; exact nI_ge hi (by omega))) (fun c_35 => ?_)
      refine wh_iload_n (pc := 38) d_Md_window_38 rfl rfl ?_
      refine wh_cut (pcj := 61) (lsj := [some (.ref 42), some (.int (nI k)), some (.int t), some (.int (orN (fun j => hasB (drawsF (pageS h 48) j) k) i)), some (.int (nI i))]) (stj := [.int (if (fun j => hasB (drawsF (pageS h 48) j) k) i then 1 <<< (nI i &&& 31) else 0), .int (orN (fun j => hasB (drawsF (pageS h 48) j) k) i)]) (hj := (layH (sI h 42 0 0) 48)) ?_ (fun j_61 => ?_)
      · refine wh_ior (pc := 61) d_Md_window_61 ?_
        refine wh_istore_n (pc := 62) (ls2 := [_, _, _, _, _]) d_Md_window_62 rfl (by decide) rfl rfl ?_
        refine wh_iinc (pc := 63) (ls2 := [_, _, _, _, _]) d_Md_window_63 rfl (nI_inc _) (by decide) rfl rfl ?_
        refine wh_goto (pc := 66) (tgt := 29) d_Md_window_66 (by decide) ?_
        refine wh_eq (ih trivial) ?_ rfl rfl
        have es : orN (fun j => hasB (drawsF (pageS h 48) j) k) (i + 1) = if (fun j => hasB (drawsF (pageS h 48) j) k) i then orN (fun j => hasB (drawsF (pageS h 48) j) k) i ||| (1 <<< (nI i &&& 31)) else orN (fun j => hasB (drawsF (pageS h 48) j) k) i := rfl
        rw [es]
        cases (fun j => hasB (drawsF (pageS h 48) j) k) i
        · simp only [Bool.false_eq_true, if_false, Int32.or_zero]
        · rfl
      · refine wh_aload_n (pc := 39) d_Md_window_39 rfl rfl ?_
        refine gf_Md_50 (pc := 40) rfl d_Md_window_40 ?_
        refine wh_iload (pc := 43) d_Md_window_43 rfl ?_
        refine wh_iald (pc := 45) d_Md_window_45 rfl (by first | exact in_nI (by omega) (by omega) | (simp only [a0, a5, a10, a19]; exact in_nI (by omega) (by omega)) | exact vp_in_iff.mpr (by decide)) ?_
        refine wh_iload_n (pc := 46) d_Md_window_46 rfl rfl ?_
        refine cs_Md_130_d (pc := 47) rfl d_Md_window_47 ⟨⟨by decide, by decide⟩, rfl, rfl⟩ (m_has) (Nat.le_of_ble_eq_true rfl) ?_
        refine wh_if_eq (pc := 50) (tgt := 60) d_Md_window_50 (by decide) (fun c_50 => ?_) (fun c_50 => ?_)
        · refine wh_iconst (pc := 60) (v := 0) d_Md_window_60 (by decide) ?_
          refine wh_eq j_61 rfl ?_ rfl
          rw [cl_nI (show i < 2 ^ 31 by omega), eD i hi] at c_50
          show _ = [Value.int (if hasB (drawsF (pageS h 48) i) k then 1 <<< (nI i &&& 31) else 0), _]
          cases z : hasB (drawsF (pageS h 48) i) k
          · rw [z] at c_50; first | rfl | exact absurd rfl c_50
          · rw [z] at c_50; first | rfl | exact absurd c_50 (by decide)
        · refine wh_iconst (pc := 53) (v := 1) d_Md_window_53 (by decide) ?_
          refine wh_iload (pc := 54) d_Md_window_54 rfl ?_
          refine wh_ishl (pc := 56) d_Md_window_56 ?_
          refine wh_goto (pc := 57) (tgt := 61) d_Md_window_57 (by decide) ?_
          refine wh_eq j_61 rfl ?_ rfl
          rw [cl_nI (show i < 2 ^ 31 by omega), eD i hi] at c_50
          show _ = [Value.int (if hasB (drawsF (pageS h 48) i) k then 1 <<< (nI i &&& 31) else 0), _]
          cases z : hasB (drawsF (pageS h 48) i) k
          · rw [z] at c_50; first | rfl | exact absurd rfl c_50
          · rw [z] at c_50; first | rfl | exact absurd c_50 (by decide)
theorem c_moth {l : Launch} {D : va_G} {base : Nat} {h : Hp} (hr : Rel h) (w t : Int32) : SI l D base M_Lm_moth [.ref 0, .int w, .int t] h (fun h2 x => FC h h2 ∧ x = moF (laneS h 2) w t) := by
  refine SP.of [some (.ref 0), some (.int w), some (.int t)] (by decide) rfl (Nat.le_of_ble_eq_true rfl) ?_
  obtain ⟨hSt, hF⟩ := hr.street
  have hw5 := hF.1.1
  have hm6 := hF.2.1.1
  rcases bI_two (w := w) (n := nM (laneS h 2)) (by omega) with hz | ⟨j, hj, rfl⟩
  · refine wh_aload_n (pc := 0) d_Lm_moth_0 rfl rfl ?_
    refine gf_Lm_20 (pc := 1) rfl d_Lm_moth_1 ?_
    refine wh_iload_n (pc := 4) d_Lm_moth_4 rfl rfl ?_
    refine cv_Lm_127_d (pc := 5) (Or.inl rfl) rfl d_Lm_moth_5 ⟨⟨by decide, by decide⟩, rfl, rfl⟩ (s_hasMoth (Or.inl rfl) (wf_m hF) hm6) (Nat.le_of_ble_eq_true rfl) ?_
    refine wh_if_ne (pc := 8) (tgt := 13) d_Lm_moth_8 (by decide) (fun c_8 => absurd hz c_8) (fun c_8 => ?_)
    refine wh_iconst (pc := 11) (v := (-1)) d_Lm_moth_11 (by decide) ?_
    refine wh_iret (pc := 12) d_Lm_moth_12 rfl ?_
    exact ⟨_, rfl, FC.rf h, by unfold moF; rw [if_pos hz]⟩
  · have hck := cl_nI (show j < 2 ^ 31 by omega)
    have hz := bI_k hj (show nM (laneS h 2) < 2 ^ 31 by omega)
    refine wh_aload_n (pc := 0) d_Lm_moth_0 rfl rfl ?_
    refine gf_Lm_20 (pc := 1) rfl d_Lm_moth_1 ?_
    refine wh_iload_n (pc := 4) d_Lm_moth_4 rfl rfl ?_
    refine cv_Lm_127_d (pc := 5) (Or.inl rfl) rfl d_Lm_moth_5 ⟨⟨by decide, by decide⟩, rfl, rfl⟩ (s_hasMoth (Or.inl rfl) (wf_m hF) hm6) (Nat.le_of_ble_eq_true rfl) ?_
    refine wh_if_ne (pc := 8) (tgt := 13) d_Lm_moth_8 (by decide) (fun c_8 => ?_) (fun c_8 => absurd c_8 hz)
    refine wh_iload_n (pc := 13) d_Lm_moth_13 rfl rfl ?_
    by_cases q_14_0 : t = 0
    · subst q_14_0
      refine wh_tabIn (pc := 14) (tgt := 44) d_Lm_moth_14 (by decide) (by decide) rfl (by decide) ?_
      refine wh_aload_n (pc := 44) d_Lm_moth_44 rfl rfl ?_
      refine gf_Lm_20 (pc := 45) rfl d_Lm_moth_45 ?_
      refine gf_Lm_130 (pc := 48) (Or.inl rfl) rfl d_Lm_moth_48 ?_
      refine wh_iload_n (pc := 51) d_Lm_moth_51 rfl rfl ?_
      refine wh_iald (pc := 52) d_Lm_moth_52 (la_seats (Or.inl rfl)) (in_nI (by omega) (by omega)) ?_
      refine wh_iret (pc := 53) d_Lm_moth_53 rfl ?_
      unfold moF
      rw [if_neg hz]
      simp only [hck] at *
      first
        | exact ⟨_, rfl, FC.rf h, la3 hj⟩
        | exact ⟨_, rfl, FC.rf h, la4 hj⟩
        | exact ⟨_, rfl, FC.rf h, rfl⟩
        | exact ⟨_, rfl, FC.rf h, by simp only [q_14_0, q_14_1, q_14_2, q_14_3, if_false]⟩
    by_cases q_14_1 : t = 1
    · subst q_14_1
      refine wh_tabIn (pc := 14) (tgt := 54) d_Lm_moth_14 (by decide) (by decide) rfl (by decide) ?_
      refine wh_aload_n (pc := 54) d_Lm_moth_54 rfl rfl ?_
      refine gf_Lm_20 (pc := 55) rfl d_Lm_moth_55 ?_
      refine gf_Lm_133 (pc := 58) (Or.inl rfl) rfl d_Lm_moth_58 ?_
      refine wh_iload_n (pc := 61) d_Lm_moth_61 rfl rfl ?_
      refine wh_iald (pc := 62) d_Lm_moth_62 (la_sorts (Or.inl rfl)) (in_nI (by omega) (by omega)) ?_
      refine wh_iret (pc := 63) d_Lm_moth_63 rfl ?_
      unfold moF
      rw [if_neg hz]
      simp only [hck] at *
      first
        | exact ⟨_, rfl, FC.rf h, la3 hj⟩
        | exact ⟨_, rfl, FC.rf h, la4 hj⟩
        | exact ⟨_, rfl, FC.rf h, rfl⟩
        | exact ⟨_, rfl, FC.rf h, by simp only [q_14_0, q_14_1, q_14_2, q_14_3, if_false]⟩
    by_cases q_14_2 : t = 2
    · subst q_14_2
      refine wh_tabIn (pc := 14) (tgt := 64) d_Lm_moth_14 (by decide) (by decide) rfl (by decide) ?_
      refine wh_aload_n (pc := 64) d_Lm_moth_64 rfl rfl ?_
      refine gf_Lm_20 (pc := 65) rfl d_Lm_moth_65 ?_
      refine wh_iload_n (pc := 68) d_Lm_moth_68 rfl rfl ?_
      refine cv_Lm_136_d (pc := 69) (Or.inl rfl) rfl d_Lm_moth_69 ⟨⟨by decide, by decide⟩, rfl, rfl⟩ (s_draws (Or.inl rfl) rfl hF hj) (Nat.le_of_ble_eq_true rfl) ?_
      refine wh_iret (pc := 72) d_Lm_moth_72 rfl ?_
      unfold moF
      rw [if_neg hz]
      simp only [hck] at *
      first
        | exact ⟨_, rfl, FC.rf h, la3 hj⟩
        | exact ⟨_, rfl, FC.rf h, la4 hj⟩
        | exact ⟨_, rfl, FC.rf h, rfl⟩
        | exact ⟨_, rfl, FC.rf h, by simp only [q_14_0, q_14_1, q_14_2, q_14_3, if_false]⟩
    by_cases q_14_3 : t = 3
    · subst q_14_3
      refine wh_tabIn (pc := 14) (tgt := 73) d_Lm_moth_14 (by decide) (by decide) rfl (by decide) ?_
      refine wh_aload_n (pc := 73) d_Lm_moth_73 rfl rfl ?_
      refine gf_Lm_20 (pc := 74) rfl d_Lm_moth_74 ?_
      refine wh_iload_n (pc := 77) d_Lm_moth_77 rfl rfl ?_
      refine cv_Lm_139_d (pc := 78) (Or.inl rfl) rfl d_Lm_moth_78 ⟨⟨by decide, by decide⟩, rfl, rfl⟩ (s_most (Or.inl rfl) rfl hF hj) (Nat.le_of_ble_eq_true rfl) ?_
      refine wh_iret (pc := 81) d_Lm_moth_81 rfl ?_
      unfold moF
      rw [if_neg hz]
      simp only [hck] at *
      first
        | exact ⟨_, rfl, FC.rf h, la3 hj⟩
        | exact ⟨_, rfl, FC.rf h, la4 hj⟩
        | exact ⟨_, rfl, FC.rf h, rfl⟩
        | exact ⟨_, rfl, FC.rf h, by simp only [q_14_0, q_14_1, q_14_2, q_14_3, if_false]⟩
    refine wh_tabOut (pc := 14) (tgt := 82) d_Lm_moth_14 (by have t0 := lv_neT q_14_0 (a := 0) (by decide); have t1 := lv_neT q_14_1 (a := 1) (by decide); have t2 := lv_neT q_14_2 (a := 2) (by decide); have t3 := lv_neT q_14_3 (a := 3) (by decide); omega) (by decide) ?_
    refine wh_bipush (pc := 82) (v := (-2)) d_Lm_moth_82 (by decide) ?_
    refine wh_iret (pc := 84) d_Lm_moth_84 rfl ?_
    unfold moF
    rw [if_neg hz]
    simp only [hck] at *
    first
      | exact ⟨_, rfl, FC.rf h, la3 hj⟩
      | exact ⟨_, rfl, FC.rf h, la4 hj⟩
      | exact ⟨_, rfl, FC.rf h, rfl⟩
      | exact ⟨_, rfl, FC.rf h, by simp only [q_14_0, q_14_1, q_14_2, q_14_3, if_false]⟩
theorem r_moth {l : Launch} {D : va_G} {base : Nat} {h : Hp} (hr : Rel h) (w t : Int32) : SI l D base M_Md_moth [.ref 42, .int w, .int t] h (fun h2 x => FM h h2 ∧ x = moF (laneS h 2) w t) := by
  refine SP.of [some (.ref 42), some (.int w), some (.int t)] (by decide) rfl (Nat.le_of_ble_eq_true rfl) ?_
  obtain ⟨hSt, hF⟩ := hr.street
  have hw5 := hF.1.1
  have hm6 := hF.2.1.1
  have hF8 : WFS (pageS h 48) := by rw [← hSt]; exact hF
  have hP0 : pageS (sI h 42 0 0) 48 = pageS h 48 := fm_page fm_thr
  have hw := hr.w
  rw [hSt] at hw5 hm6 ⊢
  rcases bI_two (w := w) (n := nM (pageS h 48)) (by omega) with hz | ⟨j, hj, rfl⟩
  · refine wh_aload_n (pc := 0) d_Md_moth_0 rfl rfl ?_
    refine wh_iconst (pc := 1) (v := 0) d_Md_moth_1 (by decide) ?_
    refine pf_Md_62 (pc := 2) rfl d_Md_moth_2 ?_
    refine wh_aload_n (pc := 5) d_Md_moth_5 rfl rfl ?_
    refine wh_iload_n (pc := 6) d_Md_moth_6 rfl rfl ?_
    refine cv_Md_161_d (pc := 7) rfl d_Md_moth_7 ⟨⟨by decide, by decide⟩, rfl, rfl⟩ (m_noM (n := nM (pageS h 48)) (by rw [gI_sI, if_neg (by decide)]; exact pf_m hF8) (by omega)) (Nat.le_of_ble_eq_true rfl) ?_
    refine wh_if_eq (pc := 10) (tgt := 15) d_Md_moth_10 (by decide) (fun c_10 => absurd c_10 (bN_n hz)) (fun c_10 => ?_)
    refine wh_iconst (pc := 13) (v := (-1)) d_Md_moth_13 (by decide) ?_
    refine wh_iret (pc := 14) d_Md_moth_14 rfl ?_
    exact ⟨_, rfl, fm_thr, by unfold moF; rw [if_pos hz]⟩
  · have hck := cl_nI (show j < 2 ^ 31 by omega)
    have hz := bI_k hj (show nM (pageS h 48) < 2 ^ 31 by omega)
    have hPL : pageS (layH (sI h 42 0 0) 48) 48 = pageS h 48 := by rw [page_lay (Or.inl rfl), hP0]
    have hfm : FM h (layH (sI h 42 0 0) 48) := fm_thr.tr fm_lay
    have eL : ∀ c j, c ≠ 56 → c ≠ 57 → c ≠ 42 → gI (layH (sI h 42 0 0) 48) c j = gI h c j := fun c j q1 q2 q3 => by rw [lay_N q1 q2, gI_sN q3]
    have eD : gI (layH (sI h 42 0 0) 48) 56 j = drawsF (pageS h 48) j := by rw [lay_56 (by rw [hP0]; exact hj), hP0]
    refine wh_aload_n (pc := 0) d_Md_moth_0 rfl rfl ?_
    refine wh_iconst (pc := 1) (v := 0) d_Md_moth_1 (by decide) ?_
    refine pf_Md_62 (pc := 2) rfl d_Md_moth_2 ?_
    refine wh_aload_n (pc := 5) d_Md_moth_5 rfl rfl ?_
    refine wh_iload_n (pc := 6) d_Md_moth_6 rfl rfl ?_
    refine cv_Md_161_d (pc := 7) rfl d_Md_moth_7 ⟨⟨by decide, by decide⟩, rfl, rfl⟩ (m_noM (n := nM (pageS h 48)) (by rw [gI_sI, if_neg (by decide)]; exact pf_m hF8) (by omega)) (Nat.le_of_ble_eq_true rfl) ?_
    refine wh_if_eq (pc := 10) (tgt := 15) d_Md_moth_10 (by decide) (fun c_10 => ?_) (fun c_10 => absurd (bN_k hj (by omega)) c_10)
    refine wh_aload_n (pc := 15) d_Md_moth_15 rfl rfl ?_
    refine wh_aload_n (pc := 16) d_Md_moth_16 rfl rfl ?_
    refine gf_Md_25 (pc := 17) rfl d_Md_moth_17 ?_
    refine cv_Md_148_d (pc := 20) rfl d_Md_moth_20 ⟨⟨by decide, by decide⟩, rfl, rfl⟩ (m_lay (Or.inl rfl) hP0 hF8) (Nat.le_of_ble_eq_true rfl) ?_
    refine wh_pop (pc := 23) d_Md_moth_23 rfl ?_
    refine wh_iload_n (pc := 24) d_Md_moth_24 rfl rfl ?_
    by_cases q_25_0 : t = 0
    · subst q_25_0
      refine wh_tabIn (pc := 25) (tgt := 56) d_Md_moth_25 (by decide) (by decide) rfl (by decide) ?_
      refine wh_aload_n (pc := 56) d_Md_moth_56 rfl rfl ?_
      refine gf_Md_25 (pc := 57) rfl d_Md_moth_57 ?_
      refine wh_bipush (pc := 60) (v := 10) d_Md_moth_60 (by decide) ?_
      refine wh_iload_n (pc := 62) d_Md_moth_62 rfl rfl ?_
      refine wh_iadd (pc := 63) d_Md_moth_63 ?_
      refine wh_iald (pc := 64) d_Md_moth_64 rfl (by first | exact in_nI (by omega) (by omega) | (simp only [a0, a5, a10, a19]; exact in_nI (by omega) (by omega)) | exact vp_in_iff.mpr (by decide)) ?_
      refine wh_iret (pc := 65) d_Md_moth_65 rfl ?_
      unfold moF
      rw [if_neg hz]
      simp only [a10, hck, cl_nI (show 10 + j < 2 ^ 31 by omega)] at *
      first
        | exact ⟨_, rfl, hfm, (eL 48 _ (by decide) (by decide) (by decide)).trans (pa3 hj)⟩
        | exact ⟨_, rfl, hfm, (eL 45 _ (by decide) (by decide) (by decide)).trans (pa4 hj)⟩
        | exact ⟨_, rfl, hfm, eD⟩
        | exact ⟨_, rfl, hfm, rfl⟩
        | exact ⟨_, rfl, hfm, by simp only [q_25_0, q_25_1, q_25_2, q_25_3, if_false]⟩
    by_cases q_25_1 : t = 1
    · subst q_25_1
      refine wh_tabIn (pc := 25) (tgt := 66) d_Md_moth_25 (by decide) (by decide) rfl (by decide) ?_
      refine wh_aload_n (pc := 66) d_Md_moth_66 rfl rfl ?_
      refine gf_Md_16 (pc := 67) rfl d_Md_moth_67 ?_
      refine wh_iload_n (pc := 70) d_Md_moth_70 rfl rfl ?_
      refine wh_iald (pc := 71) d_Md_moth_71 rfl (by first | exact in_nI (by omega) (by omega) | (simp only [a0, a5, a10, a19]; exact in_nI (by omega) (by omega)) | exact vp_in_iff.mpr (by decide)) ?_
      refine wh_iret (pc := 72) d_Md_moth_72 rfl ?_
      unfold moF
      rw [if_neg hz]
      simp only [a10, hck, cl_nI (show 10 + j < 2 ^ 31 by omega)] at *
      first
        | exact ⟨_, rfl, hfm, (eL 48 _ (by decide) (by decide) (by decide)).trans (pa3 hj)⟩
        | exact ⟨_, rfl, hfm, (eL 45 _ (by decide) (by decide) (by decide)).trans (pa4 hj)⟩
        | exact ⟨_, rfl, hfm, eD⟩
        | exact ⟨_, rfl, hfm, rfl⟩
        | exact ⟨_, rfl, hfm, by simp only [q_25_0, q_25_1, q_25_2, q_25_3, if_false]⟩
    by_cases q_25_2 : t = 2
    · subst q_25_2
      refine wh_tabIn (pc := 25) (tgt := 73) d_Md_moth_25 (by decide) (by decide) rfl (by decide) ?_
      refine wh_aload_n (pc := 73) d_Md_moth_73 rfl rfl ?_
      refine gf_Md_50 (pc := 74) rfl d_Md_moth_74 ?_
      refine wh_iload_n (pc := 77) d_Md_moth_77 rfl rfl ?_
      refine wh_iald (pc := 78) d_Md_moth_78 rfl (by first | exact in_nI (by omega) (by omega) | (simp only [a0, a5, a10, a19]; exact in_nI (by omega) (by omega)) | exact vp_in_iff.mpr (by decide)) ?_
      refine wh_iret (pc := 79) d_Md_moth_79 rfl ?_
      unfold moF
      rw [if_neg hz]
      simp only [a10, hck, cl_nI (show 10 + j < 2 ^ 31 by omega)] at *
      first
        | exact ⟨_, rfl, hfm, (eL 48 _ (by decide) (by decide) (by decide)).trans (pa3 hj)⟩
        | exact ⟨_, rfl, hfm, (eL 45 _ (by decide) (by decide) (by decide)).trans (pa4 hj)⟩
        | exact ⟨_, rfl, hfm, eD⟩
        | exact ⟨_, rfl, hfm, rfl⟩
        | exact ⟨_, rfl, hfm, by simp only [q_25_0, q_25_1, q_25_2, q_25_3, if_false]⟩
    by_cases q_25_3 : t = 3
    · subst q_25_3
      refine wh_tabIn (pc := 25) (tgt := 80) d_Md_moth_25 (by decide) (by decide) rfl (by decide) ?_
      refine wh_aload_n (pc := 80) d_Md_moth_80 rfl rfl ?_
      refine wh_aload_n (pc := 81) d_Md_moth_81 rfl rfl ?_
      refine gf_Md_25 (pc := 82) rfl d_Md_moth_82 ?_
      refine wh_iload_n (pc := 85) d_Md_moth_85 rfl rfl ?_
      refine cv_Md_126_d (pc := 86) rfl d_Md_moth_86 ⟨⟨by decide, by decide⟩, rfl, rfl⟩ (m_most (Or.inl rfl) hPL hF8 hj) (Nat.le_of_ble_eq_true rfl) ?_
      refine wh_iret (pc := 89) d_Md_moth_89 rfl ?_
      unfold moF
      rw [if_neg hz]
      simp only [a10, hck, cl_nI (show 10 + j < 2 ^ 31 by omega)] at *
      first
        | exact ⟨_, rfl, hfm, (eL 48 _ (by decide) (by decide) (by decide)).trans (pa3 hj)⟩
        | exact ⟨_, rfl, hfm, (eL 45 _ (by decide) (by decide) (by decide)).trans (pa4 hj)⟩
        | exact ⟨_, rfl, hfm, eD⟩
        | exact ⟨_, rfl, hfm, rfl⟩
        | exact ⟨_, rfl, hfm, by simp only [q_25_0, q_25_1, q_25_2, q_25_3, if_false]⟩
    refine wh_tabOut (pc := 25) (tgt := 90) d_Md_moth_25 (by have t0 := lv_neT q_25_0 (a := 0) (by decide); have t1 := lv_neT q_25_1 (a := 1) (by decide); have t2 := lv_neT q_25_2 (a := 2) (by decide); have t3 := lv_neT q_25_3 (a := 3) (by decide); omega) (by decide) ?_
    refine wh_bipush (pc := 90) (v := (-2)) d_Md_moth_90 (by decide) ?_
    refine wh_iret (pc := 92) d_Md_moth_92 rfl ?_
    unfold moF
    rw [if_neg hz]
    simp only [a10, hck, cl_nI (show 10 + j < 2 ^ 31 by omega)] at *
    first
      | exact ⟨_, rfl, hfm, (eL 48 _ (by decide) (by decide) (by decide)).trans (pa3 hj)⟩
      | exact ⟨_, rfl, hfm, (eL 45 _ (by decide) (by decide) (by decide)).trans (pa4 hj)⟩
      | exact ⟨_, rfl, hfm, eD⟩
      | exact ⟨_, rfl, hfm, rfl⟩
      | exact ⟨_, rfl, hfm, by simp only [q_25_0, q_25_1, q_25_2, q_25_3, if_false]⟩
theorem c_pull {l : Launch} {D : va_G} {base : Nat} {h : Hp} (hr : Rel h) (w t : Int32) : SI l D base M_Lm_pull [.ref 0, .int w, .int t] h (fun h2 x => FC h h2 ∧ x = plF2 (laneS h 2) w t) := by
  refine SP.of [some (.ref 0), some (.int w), some (.int t)] (by decide) rfl (Nat.le_of_ble_eq_true rfl) ?_
  obtain ⟨hSt, hF⟩ := hr.street
  have hw5 := hF.1.1
  have hm6 := hF.2.1.1
  rcases bI_two (w := w) (n := nW (laneS h 2)) (by omega) with hz | ⟨k, hk, rfl⟩
  · refine wh_aload_n (pc := 0) d_Lm_pull_0 rfl rfl ?_
    refine gf_Lm_20 (pc := 1) rfl d_Lm_pull_1 ?_
    refine wh_iload_n (pc := 4) d_Lm_pull_4 rfl rfl ?_
    refine cv_Lm_101_d (pc := 5) (Or.inl rfl) rfl d_Lm_pull_5 ⟨⟨by decide, by decide⟩, rfl, rfl⟩ (s_hasWindow (Or.inl rfl) (wf_w hF) hw5) (Nat.le_of_ble_eq_true rfl) ?_
    refine wh_if_eq (pc := 8) (tgt := 22) d_Lm_pull_8 (by decide) (fun c_8 => ?_) (fun c_8 => absurd hz c_8)
    refine wh_iconst (pc := 22) (v := (-1)) d_Lm_pull_22 (by decide) ?_
    refine wh_iret (pc := 23) d_Lm_pull_23 rfl ?_
    exact ⟨_, rfl, FC.rf h, by unfold plF2; rw [if_pos hz]⟩
  · have hz := bI_k hk (show nW (laneS h 2) < 2 ^ 31 by omega)
    rcases bI_two (w := t) (n := nM (laneS h 2)) (by omega) with hz2 | ⟨j, hj, rfl⟩
    · refine wh_aload_n (pc := 0) d_Lm_pull_0 rfl rfl ?_
      refine gf_Lm_20 (pc := 1) rfl d_Lm_pull_1 ?_
      refine wh_iload_n (pc := 4) d_Lm_pull_4 rfl rfl ?_
      refine cv_Lm_101_d (pc := 5) (Or.inl rfl) rfl d_Lm_pull_5 ⟨⟨by decide, by decide⟩, rfl, rfl⟩ (s_hasWindow (Or.inl rfl) (wf_w hF) hw5) (Nat.le_of_ble_eq_true rfl) ?_
      refine wh_if_eq (pc := 8) (tgt := 22) d_Lm_pull_8 (by decide) (fun c_8 => absurd c_8 hz) (fun c_8 => ?_)
      refine wh_aload_n (pc := 11) d_Lm_pull_11 rfl rfl ?_
      refine gf_Lm_20 (pc := 12) rfl d_Lm_pull_12 ?_
      refine wh_iload_n (pc := 15) d_Lm_pull_15 rfl rfl ?_
      refine cv_Lm_127_d (pc := 16) (Or.inl rfl) rfl d_Lm_pull_16 ⟨⟨by decide, by decide⟩, rfl, rfl⟩ (s_hasMoth (Or.inl rfl) (wf_m hF) hm6) (Nat.le_of_ble_eq_true rfl) ?_
      refine wh_if_ne (pc := 19) (tgt := 24) d_Lm_pull_19 (by decide) (fun c_19 => absurd hz2 c_19) (fun c_19 => ?_)
      refine wh_iconst (pc := 22) (v := (-1)) d_Lm_pull_22 (by decide) ?_
      refine wh_iret (pc := 23) d_Lm_pull_23 rfl ?_
      exact ⟨_, rfl, FC.rf h, by unfold plF2; rw [if_neg hz, if_pos hz2]⟩
    · have hz2 := bI_k hj (show nM (laneS h 2) < 2 ^ 31 by omega)
      refine wh_aload_n (pc := 0) d_Lm_pull_0 rfl rfl ?_
      refine gf_Lm_20 (pc := 1) rfl d_Lm_pull_1 ?_
      refine wh_iload_n (pc := 4) d_Lm_pull_4 rfl rfl ?_
      refine cv_Lm_101_d (pc := 5) (Or.inl rfl) rfl d_Lm_pull_5 ⟨⟨by decide, by decide⟩, rfl, rfl⟩ (s_hasWindow (Or.inl rfl) (wf_w hF) hw5) (Nat.le_of_ble_eq_true rfl) ?_
      refine wh_if_eq (pc := 8) (tgt := 22) d_Lm_pull_8 (by decide) (fun c_8 => absurd c_8 hz) (fun c_8 => ?_)
      refine wh_aload_n (pc := 11) d_Lm_pull_11 rfl rfl ?_
      refine gf_Lm_20 (pc := 12) rfl d_Lm_pull_12 ?_
      refine wh_iload_n (pc := 15) d_Lm_pull_15 rfl rfl ?_
      refine cv_Lm_127_d (pc := 16) (Or.inl rfl) rfl d_Lm_pull_16 ⟨⟨by decide, by decide⟩, rfl, rfl⟩ (s_hasMoth (Or.inl rfl) (wf_m hF) hm6) (Nat.le_of_ble_eq_true rfl) ?_
      refine wh_if_ne (pc := 19) (tgt := 24) d_Lm_pull_19 (by decide) (fun c_19 => ?_) (fun c_19 => absurd c_19 hz2)
      refine wh_aload_n (pc := 24) d_Lm_pull_24 rfl rfl ?_
      refine gf_Lm_20 (pc := 25) rfl d_Lm_pull_25 ?_
      refine wh_iload_n (pc := 28) d_Lm_pull_28 rfl rfl ?_
      refine wh_iload_n (pc := 29) d_Lm_pull_29 rfl rfl ?_
      refine cv_Lm_142_d (pc := 30) (Or.inl rfl) rfl d_Lm_pull_30 ⟨⟨by decide, by decide⟩, rfl, rfl⟩ (s_tug (Or.inl rfl) rfl hF hk hj) (Nat.le_of_ble_eq_true rfl) ?_
      refine wh_iret (pc := 33) d_Lm_pull_33 rfl ?_
      exact ⟨_, rfl, FC.rf h, by unfold plF2; rw [if_neg hz, if_neg hz2, cl_nI (by omega), cl_nI (by omega)]⟩
theorem r_pull {l : Launch} {D : va_G} {base : Nat} {h : Hp} (hr : Rel h) (w t : Int32) : SI l D base M_Md_pull [.ref 42, .int w, .int t] h (fun h2 x => FM h h2 ∧ x = plF2 (laneS h 2) w t) := by
  refine SP.of [some (.ref 42), some (.int w), some (.int t)] (by decide) rfl (Nat.le_of_ble_eq_true rfl) ?_
  obtain ⟨hSt, hF⟩ := hr.street
  have hw5 := hF.1.1
  have hm6 := hF.2.1.1
  have hF8 : WFS (pageS h 48) := by rw [← hSt]; exact hF
  have hP0 : pageS (sI h 42 0 0) 48 = pageS h 48 := fm_page fm_thr
  have hw := hr.w
  rw [hSt] at hw5 hm6 ⊢
  rcases bI_two (w := w) (n := nW (pageS h 48)) (by omega) with hz | ⟨k, hk, rfl⟩
  · refine wh_aload_n (pc := 0) d_Md_pull_0 rfl rfl ?_
    refine wh_iconst (pc := 1) (v := 0) d_Md_pull_1 (by decide) ?_
    refine pf_Md_62 (pc := 2) rfl d_Md_pull_2 ?_
    refine wh_aload_n (pc := 5) d_Md_pull_5 rfl rfl ?_
    refine wh_iload_n (pc := 6) d_Md_pull_6 rfl rfl ?_
    refine cv_Md_157_d (pc := 7) rfl d_Md_pull_7 ⟨⟨by decide, by decide⟩, rfl, rfl⟩ (m_noW (n := nW (pageS h 48)) (by rw [gI_sI, if_neg (by decide)]; exact pf_w hF8) (by omega)) (Nat.le_of_ble_eq_true rfl) ?_
    refine wh_if_ne (pc := 10) (tgt := 21) d_Md_pull_10 (by decide) (fun c_10 => ?_) (fun c_10 => absurd c_10 (bN_n hz))
    refine wh_iconst (pc := 21) (v := (-1)) d_Md_pull_21 (by decide) ?_
    refine wh_goto (pc := 22) (tgt := 35) d_Md_pull_22 (by decide) ?_
    refine wh_iret (pc := 35) d_Md_pull_35 rfl ?_
    exact ⟨_, rfl, fm_thr, by unfold plF2; rw [if_pos hz]⟩
  · have hz := bI_k hk (show nW (pageS h 48) < 2 ^ 31 by omega)
    rcases bI_two (w := t) (n := nM (pageS h 48)) (by omega) with hz2 | ⟨j, hj, rfl⟩
    · refine wh_aload_n (pc := 0) d_Md_pull_0 rfl rfl ?_
      refine wh_iconst (pc := 1) (v := 0) d_Md_pull_1 (by decide) ?_
      refine pf_Md_62 (pc := 2) rfl d_Md_pull_2 ?_
      refine wh_aload_n (pc := 5) d_Md_pull_5 rfl rfl ?_
      refine wh_iload_n (pc := 6) d_Md_pull_6 rfl rfl ?_
      refine cv_Md_157_d (pc := 7) rfl d_Md_pull_7 ⟨⟨by decide, by decide⟩, rfl, rfl⟩ (m_noW (n := nW (pageS h 48)) (by rw [gI_sI, if_neg (by decide)]; exact pf_w hF8) (by omega)) (Nat.le_of_ble_eq_true rfl) ?_
      refine wh_if_ne (pc := 10) (tgt := 21) d_Md_pull_10 (by decide) (fun c_10 => absurd (bN_k hk (by omega)) c_10) (fun c_10 => ?_)
      refine wh_aload_n (pc := 13) d_Md_pull_13 rfl rfl ?_
      refine wh_iload_n (pc := 14) d_Md_pull_14 rfl rfl ?_
      refine cv_Md_161_d (pc := 15) rfl d_Md_pull_15 ⟨⟨by decide, by decide⟩, rfl, rfl⟩ (m_noM (n := nM (pageS h 48)) (by rw [gI_sI, if_neg (by decide)]; exact pf_m hF8) (by omega)) (Nat.le_of_ble_eq_true rfl) ?_
      refine wh_if_eq (pc := 18) (tgt := 25) d_Md_pull_18 (by decide) (fun c_18 => absurd c_18 (bN_n hz2)) (fun c_18 => ?_)
      refine wh_iconst (pc := 21) (v := (-1)) d_Md_pull_21 (by decide) ?_
      refine wh_goto (pc := 22) (tgt := 35) d_Md_pull_22 (by decide) ?_
      refine wh_iret (pc := 35) d_Md_pull_35 rfl ?_
      exact ⟨_, rfl, fm_thr, by unfold plF2; rw [if_neg hz, if_pos hz2]⟩
    · have hz2 := bI_k hj (show nM (pageS h 48) < 2 ^ 31 by omega)
      refine wh_aload_n (pc := 0) d_Md_pull_0 rfl rfl ?_
      refine wh_iconst (pc := 1) (v := 0) d_Md_pull_1 (by decide) ?_
      refine pf_Md_62 (pc := 2) rfl d_Md_pull_2 ?_
      refine wh_aload_n (pc := 5) d_Md_pull_5 rfl rfl ?_
      refine wh_iload_n (pc := 6) d_Md_pull_6 rfl rfl ?_
      refine cv_Md_157_d (pc := 7) rfl d_Md_pull_7 ⟨⟨by decide, by decide⟩, rfl, rfl⟩ (m_noW (n := nW (pageS h 48)) (by rw [gI_sI, if_neg (by decide)]; exact pf_w hF8) (by omega)) (Nat.le_of_ble_eq_true rfl) ?_
      refine wh_if_ne (pc := 10) (tgt := 21) d_Md_pull_10 (by decide) (fun c_10 => absurd (bN_k hk (by omega)) c_10) (fun c_10 => ?_)
      refine wh_aload_n (pc := 13) d_Md_pull_13 rfl rfl ?_
      refine wh_iload_n (pc := 14) d_Md_pull_14 rfl rfl ?_
      refine cv_Md_161_d (pc := 15) rfl d_Md_pull_15 ⟨⟨by decide, by decide⟩, rfl, rfl⟩ (m_noM (n := nM (pageS h 48)) (by rw [gI_sI, if_neg (by decide)]; exact pf_m hF8) (by omega)) (Nat.le_of_ble_eq_true rfl) ?_
      refine wh_if_eq (pc := 18) (tgt := 25) d_Md_pull_18 (by decide) (fun c_18 => ?_) (fun c_18 => absurd (bN_k hj (by omega)) c_18)
      refine wh_aload_n (pc := 25) d_Md_pull_25 rfl rfl ?_
      refine wh_aload_n (pc := 26) d_Md_pull_26 rfl rfl ?_
      refine gf_Md_25 (pc := 27) rfl d_Md_pull_27 ?_
      refine wh_iload_n (pc := 30) d_Md_pull_30 rfl rfl ?_
      refine wh_iload_n (pc := 31) d_Md_pull_31 rfl rfl ?_
      refine cv_Md_122_d (pc := 32) rfl d_Md_pull_32 ⟨⟨by decide, by decide⟩, rfl, rfl⟩ (m_pull (Or.inl rfl) hP0 hF8 hk hj) (Nat.le_of_ble_eq_true rfl) ?_
      refine wh_iret (pc := 35) d_Md_pull_35 rfl ?_
      exact ⟨_, rfl, fm_thr, by unfold plF2; rw [if_neg hz, if_neg hz2, cl_nI (by omega), cl_nI (by omega)]⟩
theorem fc_c {h h' : Hp} (f : FC h h') (c j : Nat) (hc : c < 9 ∨ (19 ≤ c ∧ c ≠ 41)) : gI h' c j = gI h c j := f.2 c j (by unfold scC; omega)
theorem x_about {l : Launch} {D : va_G} {base : Nat} (w : Int32) : CMD l D base M_Lm_about M_Md_about [.int w] := CMD.q (fun h => abF h w) (fun h h' f _ => by
  unfold abF
  rw [fc_lane f, fc_c f 2 6 (by omega), fc_c f 2 7 (by omega), fc_c f 2 8 (by omega), fc_c f 2 9 (by omega), fc_c f 2 10 (by omega), fc_c f 0 6 (by omega), fc_c f 0 12 (by omega), fc_c f 0 1 (by omega), show (fun k => gI h' 6 k) = (fun k => gI h 6 k) from funext fun k => fc_c f 6 k (by omega)]) (fun h hr => c_about hr w) (fun h hr => r_about hr w)
theorem x_window {l : Launch} {D : va_G} {base : Nat} (w t : Int32) : CMD l D base M_Lm_window M_Md_window [.int w, .int t] := CMD.q (fun h => wiF h w t) (fun h h' f _ => by
  unfold wiF
  rw [fc_lane f, fc_c f 6 _ (by omega)]) (fun h hr => c_window hr w t) (fun h hr => r_window hr w t)
theorem x_moth {l : Launch} {D : va_G} {base : Nat} (w t : Int32) : CMD l D base M_Lm_moth M_Md_moth [.int w, .int t] := CMD.q (fun h => moF (laneS h 2) w t) (fun h h' f _ => by rw [fc_lane f]) (fun h hr => c_moth hr w t) (fun h hr => r_moth hr w t)
theorem x_pull {l : Launch} {D : va_G} {base : Nat} (w t : Int32) : CMD l D base M_Lm_pull M_Md_pull [.int w, .int t] := CMD.q (fun h => plF2 (laneS h 2) w t) (fun h h' f _ => by rw [fc_lane f]) (fun h hr => c_pull hr w t) (fun h hr => r_pull hr w t)

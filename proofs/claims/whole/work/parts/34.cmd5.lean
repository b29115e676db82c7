theorem c_turnU {l : Launch} {D : va_G} {base : Nat} {h : Hp} (hF : WFS (laneS h 2)) {w y : Int32} (hz : bI w (nW (laneS h 2)) = 0) : SD l D base M_Lm_turned [.ref 0, .int w, .int y] h (some (.int (-1))) h := by
  refine SP.of [some (.ref 0), some (.int w), some (.int y)] (by decide) rfl (Nat.le_of_ble_eq_true rfl) ?_
  have hw5 := hF.1.1
  refine wh_aload_n (pc := 0) d_Lm_turned_0 rfl rfl ?_
  refine gf_Lm_20 (pc := 1) rfl d_Lm_turned_1 ?_
  refine wh_iload_n (pc := 4) d_Lm_turned_4 rfl rfl ?_
  refine cv_Lm_101_d (pc := 5) (Or.inl rfl) rfl d_Lm_turned_5 ⟨⟨by decide, by decide⟩, rfl, rfl⟩ (s_hasWindow (Or.inl rfl) (wf_w hF) hw5) (Nat.le_of_ble_eq_true rfl) ?_
  refine wh_if_ne (pc := 8) (tgt := 13) d_Lm_turned_8 (by decide) (fun c_8 => absurd hz c_8) (fun c_8 => ?_)
  refine wh_iconst (pc := 11) (v := (-1)) d_Lm_turned_11 (by decide) ?_
  refine wh_iret (pc := 12) d_Lm_turned_12 rfl ?_
  exact ⟨rfl, rfl⟩
theorem c_turnL {l : Launch} {D : va_G} {base : Nat} {h : Hp} (hF : WFS (laneS h 2)) {k : Nat} (hk : k < nW (laneS h 2)) {y : Int32} (hc : canF (laneS h 2) (nI k) y = 0) : SD l D base M_Lm_turned [.ref 0, .int (nI k), .int y] h (some (.int (-3))) h := by
  refine SP.of [some (.ref 0), some (.int (nI k)), some (.int y)] (by decide) rfl (Nat.le_of_ble_eq_true rfl) ?_
  have hw5 := hF.1.1
  refine wh_aload_n (pc := 0) d_Lm_turned_0 rfl rfl ?_
  refine gf_Lm_20 (pc := 1) rfl d_Lm_turned_1 ?_
  refine wh_iload_n (pc := 4) d_Lm_turned_4 rfl rfl ?_
  refine cv_Lm_101_d (pc := 5) (Or.inl rfl) rfl d_Lm_turned_5 ⟨⟨by decide, by decide⟩, rfl, rfl⟩ (s_hasWindow (Or.inl rfl) (wf_w hF) hw5) (Nat.le_of_ble_eq_true rfl) ?_
  refine wh_if_ne (pc := 8) (tgt := 13) d_Lm_turned_8 (by decide) (fun c_8 => ?_) (fun c_8 => absurd c_8 (bI_k hk (by omega)))
  refine wh_aload_n (pc := 13) d_Lm_turned_13 rfl rfl ?_
  refine gf_Lm_20 (pc := 14) rfl d_Lm_turned_14 ?_
  refine wh_iload_n (pc := 17) d_Lm_turned_17 rfl rfl ?_
  refine wh_iload_n (pc := 18) d_Lm_turned_18 rfl rfl ?_
  refine cv_Lm_243_d (pc := 19) (Or.inl rfl) rfl d_Lm_turned_19 ⟨⟨by decide, by decide⟩, rfl, rfl⟩ (s_canTurn (Or.inl rfl) rfl hF) (Nat.le_of_ble_eq_true rfl) ?_
  refine wh_if_ne (pc := 22) (tgt := 28) d_Lm_turned_22 (by decide) (fun c_22 => absurd hc c_22) (fun c_22 => ?_)
  refine wh_bipush (pc := 25) (v := (-3)) d_Lm_turned_25 (by decide) ?_
  refine wh_iret (pc := 27) d_Lm_turned_27 rfl ?_
  exact ⟨rfl, rfl⟩
theorem c_turnY {l : Launch} {D : va_G} {base : Nat} {h : Hp} (hF : WFS (laneS h 2)) {k : Nat} (hk : k < nW (laneS h 2)) {y : Int32} (hc : canF (laneS h 2) (nI k) y = 1) (hR : Rows h) {na : Nat} (ha : na ≤ 14) (hn : gI h 0 6 = nI na) : SI l D base M_Lm_turned [.ref 0, .int (nI k), .int y] h (fun h1 x => x = laneS h 2 1 k + y ∧ ∃ hA, RMc h hA na (grow na).1 (grow na).2 ∧ h1 = sI hA 4 k (laneS h 2 1 k + y)) := by
  refine SP.of [some (.ref 0), some (.int (nI k)), some (.int y)] (by decide) rfl (Nat.le_of_ble_eq_true rfl) ?_
  have hw5 := hF.1.1
  refine wh_aload_n (pc := 0) d_Lm_turned_0 rfl rfl ?_
  refine gf_Lm_20 (pc := 1) rfl d_Lm_turned_1 ?_
  refine wh_iload_n (pc := 4) d_Lm_turned_4 rfl rfl ?_
  refine cv_Lm_101_d (pc := 5) (Or.inl rfl) rfl d_Lm_turned_5 ⟨⟨by decide, by decide⟩, rfl, rfl⟩ (s_hasWindow (Or.inl rfl) (wf_w hF) hw5) (Nat.le_of_ble_eq_true rfl) ?_
  refine wh_if_ne (pc := 8) (tgt := 13) d_Lm_turned_8 (by decide) (fun c_8 => ?_) (fun c_8 => absurd c_8 (bI_k hk (by omega)))
  refine wh_aload_n (pc := 13) d_Lm_turned_13 rfl rfl ?_
  refine gf_Lm_20 (pc := 14) rfl d_Lm_turned_14 ?_
  refine wh_iload_n (pc := 17) d_Lm_turned_17 rfl rfl ?_
  refine wh_iload_n (pc := 18) d_Lm_turned_18 rfl rfl ?_
  refine cv_Lm_243_d (pc := 19) (Or.inl rfl) rfl d_Lm_turned_19 ⟨⟨by decide, by decide⟩, rfl, rfl⟩ (s_canTurn (Or.inl rfl) rfl hF) (Nat.le_of_ble_eq_true rfl) ?_
  refine wh_if_ne (pc := 22) (tgt := 28) d_Lm_turned_22 (by decide) (fun c_22 => ?_) (fun c_22 => absurd c_22 (by rw [hc]; decide))
  refine wh_aload_n (pc := 28) d_Lm_turned_28 rfl rfl ?_
  refine cv_Lm_152_v (pc := 29) rfl d_Lm_turned_29 ⟨⟨by decide, by decide⟩, rfl, rfl⟩ (s_remember hR ha hn) (Nat.le_of_ble_eq_true rfl) (fun h_29 e_29 => ?_)
  refine wh_aload_n (pc := 32) d_Lm_turned_32 rfl rfl ?_
  refine gf_Lm_20 (pc := 33) rfl d_Lm_turned_33 ?_
  refine wh_iload_n (pc := 36) d_Lm_turned_36 rfl rfl ?_
  refine wh_iload_n (pc := 37) d_Lm_turned_37 rfl rfl ?_
  refine cv_Lm_246_d (pc := 38) (Or.inl rfl) rfl d_Lm_turned_38 ⟨⟨by decide, by decide⟩, rfl, rfl⟩ (s_turnY (Or.inl rfl) (rmc_lane e_29) hF hk hc) (Nat.le_of_ble_eq_true rfl) ?_
  refine wh_pop (pc := 41) d_Lm_turned_41 rfl ?_
  refine wh_aload_n (pc := 42) d_Lm_turned_42 rfl rfl ?_
  refine gf_Lm_20 (pc := 43) rfl d_Lm_turned_43 ?_
  refine gf_Lm_108 (pc := 46) (Or.inl rfl) rfl d_Lm_turned_46 ?_
  refine wh_iload_n (pc := 49) d_Lm_turned_49 rfl rfl ?_
  refine wh_iald (pc := 50) d_Lm_turned_50 (la_burns (Or.inl rfl)) (in_nI (by omega) (by omega)) ?_
  refine wh_iret (pc := 51) d_Lm_turned_51 rfl ?_
  refine ⟨_, rfl, ?_, _, e_29, rfl⟩
  rw [cl_nI (show k < 2 ^ 31 by omega)]
  exact gI_sS _ _ _ _
theorem r_turnU {l : Launch} {D : va_G} {base : Nat} {h : Hp} (hF : WFS (pageS h 48)) {w y : Int32} (hz : bI w (nW (pageS h 48)) = 0) : SD l D base M_Md_turned [.ref 42, .int w, .int y] h (some (.int (-1))) h := by
  refine SP.of [some (.ref 42), some (.int w), some (.int y)] (by decide) rfl (Nat.le_of_ble_eq_true rfl) ?_
  have hw5 := hF.1.1
  refine wh_aload_n (pc := 0) d_Md_turned_0 rfl rfl ?_
  refine wh_iload_n (pc := 1) d_Md_turned_1 rfl rfl ?_
  refine cv_Md_157_d (pc := 2) rfl d_Md_turned_2 ⟨⟨by decide, by decide⟩, rfl, rfl⟩ (m_noW (n := nW (pageS h 48)) (pf_w hF) (by omega)) (Nat.le_of_ble_eq_true rfl) ?_
  refine wh_if_eq (pc := 5) (tgt := 10) d_Md_turned_5 (by decide) (fun c_5 => absurd c_5 (bN_n hz)) (fun c_5 => ?_)
  refine wh_iconst (pc := 8) (v := (-1)) d_Md_turned_8 (by decide) ?_
  refine wh_iret (pc := 9) d_Md_turned_9 rfl ?_
  exact ⟨rfl, rfl⟩
theorem r_turnL {l : Launch} {D : va_G} {base : Nat} {h : Hp} (hF : WFS (pageS h 48)) {k : Nat} (hk : k < nW (pageS h 48)) {y : Int32} (hc : canF (pageS h 48) (nI k) y = 0) : SD l D base M_Md_turned [.ref 42, .int (nI k), .int y] h (some (.int (-3))) h := by
  refine SP.of [some (.ref 42), some (.int (nI k)), some (.int y)] (by decide) rfl (Nat.le_of_ble_eq_true rfl) ?_
  have hw5 := hF.1.1
  refine wh_aload_n (pc := 0) d_Md_turned_0 rfl rfl ?_
  refine wh_iload_n (pc := 1) d_Md_turned_1 rfl rfl ?_
  refine cv_Md_157_d (pc := 2) rfl d_Md_turned_2 ⟨⟨by decide, by decide⟩, rfl, rfl⟩ (m_noW (n := nW (pageS h 48)) (pf_w hF) (by omega)) (Nat.le_of_ble_eq_true rfl) ?_
  refine wh_if_eq (pc := 5) (tgt := 10) d_Md_turned_5 (by decide) (fun c_5 => ?_) (fun c_5 => absurd (bN_k hk (by omega)) c_5)
  refine wh_aload_n (pc := 10) d_Md_turned_10 rfl rfl ?_
  refine gf_Md_25 (pc := 11) rfl d_Md_turned_11 ?_
  refine wh_iconst (pc := 14) (v := 0) d_Md_turned_14 (by decide) ?_
  refine wh_iload_n (pc := 15) d_Md_turned_15 rfl rfl ?_
  refine wh_iadd (pc := 16) d_Md_turned_16 ?_
  refine wh_iald (pc := 17) d_Md_turned_17 rfl (by first | exact in_nI (by omega) (by omega) | (simp only [a0, a5, a10, a19]; exact in_nI (by omega) (by omega)) | exact vp_in_iff.mpr (by decide)) ?_
  refine wh_iload_n (pc := 18) d_Md_turned_18 rfl rfl ?_
  refine wh_iadd (pc := 19) d_Md_turned_19 ?_
  refine wh_i2l (pc := 20) d_Md_turned_20 ?_
  refine wh_lconst (pc := 21) (v := 0) d_Md_turned_21 (by decide) ?_
  refine wh_ldc2 (pc := 22) d_Md_turned_22 kc_Md_164 ?_
  refine cs_Md_69_d (pc := 25) rfl d_Md_turned_25 ⟨⟨by decide, by decide⟩, rfl, rfl⟩ (m_in) (Nat.le_of_ble_eq_true rfl) ?_
  refine wh_if_ne (pc := 28) (tgt := 34) d_Md_turned_28 (by decide) (fun c_28 => absurd (show inF (gI h 48 (0 + nI k).toNatClampNeg + y).toInt64 0 9 = 0 by rw [a0, cl_nI (show k < 2 ^ 31 by omega), pa1 hk]; exact (inL _ 0 9 rfl rfl).mpr ((can_in hk hw5).mp hc)) c_28) (fun c_28 => ?_)
  refine wh_bipush (pc := 31) (v := (-3)) d_Md_turned_31 (by decide) ?_
  refine wh_iret (pc := 33) d_Md_turned_33 rfl ?_
  exact ⟨rfl, rfl⟩
theorem r_turnY {l : Launch} {D : va_G} {base : Nat} {h : Hp} (hF : WFS (pageS h 48)) {k : Nat} (hk : k < nW (pageS h 48)) {y : Int32} (hc : canF (pageS h 48) (nI k) y = 1) {na : Nat} (ha : na ≤ 14) (hn : gI h 42 17 = nI na) : SI l D base M_Md_turned [.ref 42, .int (nI k), .int y] h (fun h1 x => x = pageS h 48 1 k + y ∧ ∃ hB, RMm h hB na (grow na).1 (grow na).2 ∧ h1 = sI hB 48 k (pageS h 48 1 k + y)) := by
  refine SP.of [some (.ref 42), some (.int (nI k)), some (.int y)] (by decide) rfl (Nat.le_of_ble_eq_true rfl) ?_
  have hw5 := hF.1.1
  refine wh_aload_n (pc := 0) d_Md_turned_0 rfl rfl ?_
  refine wh_iload_n (pc := 1) d_Md_turned_1 rfl rfl ?_
  refine cv_Md_157_d (pc := 2) rfl d_Md_turned_2 ⟨⟨by decide, by decide⟩, rfl, rfl⟩ (m_noW (n := nW (pageS h 48)) (pf_w hF) (by omega)) (Nat.le_of_ble_eq_true rfl) ?_
  refine wh_if_eq (pc := 5) (tgt := 10) d_Md_turned_5 (by decide) (fun c_5 => ?_) (fun c_5 => absurd (bN_k hk (by omega)) c_5)
  refine wh_aload_n (pc := 10) d_Md_turned_10 rfl rfl ?_
  refine gf_Md_25 (pc := 11) rfl d_Md_turned_11 ?_
  refine wh_iconst (pc := 14) (v := 0) d_Md_turned_14 (by decide) ?_
  refine wh_iload_n (pc := 15) d_Md_turned_15 rfl rfl ?_
  refine wh_iadd (pc := 16) d_Md_turned_16 ?_
  refine wh_iald (pc := 17) d_Md_turned_17 rfl (by first | exact in_nI (by omega) (by omega) | (simp only [a0, a5, a10, a19]; exact in_nI (by omega) (by omega)) | exact vp_in_iff.mpr (by decide)) ?_
  refine wh_iload_n (pc := 18) d_Md_turned_18 rfl rfl ?_
  refine wh_iadd (pc := 19) d_Md_turned_19 ?_
  refine wh_i2l (pc := 20) d_Md_turned_20 ?_
  refine wh_lconst (pc := 21) (v := 0) d_Md_turned_21 (by decide) ?_
  refine wh_ldc2 (pc := 22) d_Md_turned_22 kc_Md_164 ?_
  refine cs_Md_69_d (pc := 25) rfl d_Md_turned_25 ⟨⟨by decide, by decide⟩, rfl, rfl⟩ (m_in) (Nat.le_of_ble_eq_true rfl) ?_
  refine wh_if_ne (pc := 28) (tgt := 34) d_Md_turned_28 (by decide) (fun c_28 => ?_) (fun c_28 => absurd c_28 (show ¬ inF (gI h 48 (0 + nI k).toNatClampNeg + y).toInt64 0 9 = 0 by rw [a0, cl_nI (show k < 2 ^ 31 by omega), pa1 hk]; exact fun z => absurd ((can_in hk hw5).mpr ((inL _ 0 9 rfl rfl).mp z)) (by rw [hc]; decide)))
  refine wh_aload_n (pc := 34) d_Md_turned_34 rfl rfl ?_
  refine cv_Md_166_v (pc := 35) rfl d_Md_turned_35 ⟨⟨by decide, by decide⟩, rfl, rfl⟩ (m_note ha hn) (Nat.le_of_ble_eq_true rfl) (fun h_35 e_35 => ?_)
  refine wh_aload_n (pc := 38) d_Md_turned_38 rfl rfl ?_
  refine gf_Md_25 (pc := 39) rfl d_Md_turned_39 ?_
  refine wh_iconst (pc := 42) (v := 0) d_Md_turned_42 (by decide) ?_
  refine wh_iload_n (pc := 43) d_Md_turned_43 rfl rfl ?_
  refine wh_iadd (pc := 44) d_Md_turned_44 ?_
  refine wh_dup2 (pc := 45) d_Md_turned_45 rfl rfl ?_
  refine wh_iald (pc := 46) d_Md_turned_46 rfl (by first | exact in_nI (by omega) (by omega) | (simp only [a0, a5, a10, a19]; exact in_nI (by omega) (by omega)) | exact vp_in_iff.mpr (by decide)) ?_
  refine wh_iload_n (pc := 47) d_Md_turned_47 rfl rfl ?_
  refine wh_iadd (pc := 48) d_Md_turned_48 ?_
  refine wh_iast (pc := 49) d_Md_turned_49 rfl (by first | exact in_nI (by omega) (by omega) | (simp only [a0, a5, a10, a19]; exact in_nI (by omega) (by omega)) | exact vp_in_iff.mpr (by decide)) ?_
  refine wh_aload_n (pc := 50) d_Md_turned_50 rfl rfl ?_
  refine gf_Md_25 (pc := 51) rfl d_Md_turned_51 ?_
  refine wh_iconst (pc := 54) (v := 0) d_Md_turned_54 (by decide) ?_
  refine wh_iload_n (pc := 55) d_Md_turned_55 rfl rfl ?_
  refine wh_iadd (pc := 56) d_Md_turned_56 ?_
  refine wh_iald (pc := 57) d_Md_turned_57 rfl (by first | exact in_nI (by omega) (by omega) | (simp only [a0, a5, a10, a19]; exact in_nI (by omega) (by omega)) | exact vp_in_iff.mpr (by decide)) ?_
  refine wh_iret (pc := 58) d_Md_turned_58 rfl ?_
  simp only [a0, cl_nI (show k < 2 ^ 31 by omega)]
  rw [e_35.2.2.2.2 48 k (by omega), pa1 hk]
  exact ⟨_, rfl, gI_sS _ _ _ _, _, e_35, rfl⟩
theorem c_upG {l : Launch} {D : va_G} {base : Nat} {h : Hp} {w : Int32} {P : Hp → Int32 → Prop} (hs : SI l D base M_Lm_turned [.ref 0, .int w, .int 1] h P) : SI l D base M_Lm_up [.ref 0, .int w] h P := by
  refine SP.of [some (.ref 0), some (.int w)] (by decide) rfl (Nat.le_of_ble_eq_true rfl) ?_
  refine wh_aload_n (pc := 0) d_Lm_up_0 rfl rfl ?_
  refine wh_iload_n (pc := 1) d_Lm_up_1 rfl rfl ?_
  refine wh_iconst (pc := 2) (v := 1) d_Lm_up_2 (by decide) ?_
  refine cv_Lm_146_i (pc := 3) rfl d_Lm_up_3 ⟨⟨by decide, by decide⟩, rfl, rfl⟩ (hs) (Nat.le_of_ble_eq_true rfl) (fun h_3 x_3 e_3 => ?_)
  refine wh_iret (pc := 6) d_Lm_up_6 rfl ?_
  exact ⟨_, rfl, e_3⟩
theorem r_upG {l : Launch} {D : va_G} {base : Nat} {h : Hp} {w : Int32} {P : Hp → Int32 → Prop} (hs : SI l D base M_Md_turned [.ref 42, .int w, .int 1] (sI h 42 0 0) P) : SI l D base M_Md_up [.ref 42, .int w] h P := by
  refine SP.of [some (.ref 42), some (.int w)] (by decide) rfl (Nat.le_of_ble_eq_true rfl) ?_
  refine wh_aload_n (pc := 0) d_Md_up_0 rfl rfl ?_
  refine wh_iconst (pc := 1) (v := 0) d_Md_up_1 (by decide) ?_
  refine pf_Md_62 (pc := 2) rfl d_Md_up_2 ?_
  refine wh_aload_n (pc := 5) d_Md_up_5 rfl rfl ?_
  refine wh_iload_n (pc := 6) d_Md_up_6 rfl rfl ?_
  refine wh_iconst (pc := 7) (v := 1) d_Md_up_7 (by decide) ?_
  refine cv_Md_169_i (pc := 8) rfl d_Md_up_8 ⟨⟨by decide, by decide⟩, rfl, rfl⟩ (hs) (Nat.le_of_ble_eq_true rfl) (fun h_8 x_8 e_8 => ?_)
  refine wh_iret (pc := 11) d_Md_up_11 rfl ?_
  exact ⟨_, rfl, e_8⟩
theorem x_up {l : Launch} {D : va_G} {base : Nat} (w : Int32) : CMD l D base M_Lm_up M_Md_up [.int w] := by
  intro h hr
  obtain ⟨hSt, hF⟩ := hr.street
  have hw5 := hF.1.1
  rcases bI_two (w := w) (n := nW (laneS h 2)) (by omega) with hz | ⟨k, hk, rfl⟩
  · exact c_upG (SI.of (c_turnU hF hz) (r_upG (SI.of (r_turnU (by rw [page_thr, ← hSt]; exact hF) (by rw [page_thr, ← hSt]; exact hz)) ⟨rfl, hr.fm fm_thr⟩)))
  · rcases can_two (laneS h 2) (nI k) 1 with hc | hc
    · exact c_upG (SI.of (c_turnL hF hk hc) (r_upG (SI.of (r_turnL (by rw [page_thr, ← hSt]; exact hF) (by rw [page_thr, ← hSt]; exact hk) (by rw [page_thr, ← hSt]; exact hc)) ⟨rfl, hr.fm fm_thr⟩)))
    · obtain ⟨n, m, r0, r1, ⟨na, ⟨ha, ra, rb⟩, rs⟩, r3, r4, r5, r6⟩ := hr
      have hWn : nW (laneS h 2) = n := by show (gI h 2 6).toNatClampNeg = n; rw [r0.1.2.1]; exact cl_nI (by have := r0.1.1; omega)
      refine c_upG ((c_turnY hF hk hc r1 ha ra).cons (fun h1 x q => ?_))
      obtain ⟨rfl, hA, hAr, rfl⟩ := q
      have eP : pageS (sI (sI hA 4 k (laneS h 2 1 k + 1)) 42 0 0) 48 = laneS h 2 := by
        rw [page_thr, page_cls (fun c j q => gI_sN (by omega)), page_cls (fun c j q => hAr.2.2.2.2.2.2 c j (by omega)), hSt]
      refine r_upG ((r_turnY (k := k) (y := 1) (na := na) (by rw [eP]; exact hF) (by rw [eP]; exact hk) (by rw [eP]; exact hc) ha (by rw [gI_sI, if_neg (by decide), gI_sN (by decide), hAr.2.2.2.2.2.2 42 17 (by omega)]; exact rb)).cons (fun h2 y q => ?_))
      obtain ⟨rfl, hB, hBr, rfl⟩ := q
      rw [eP]
      exact ⟨rfl, act_one r0 r1 ⟨ha, rs⟩ r3 r4 r5 r6 (Or.inr (Or.inr ⟨by omega, rfl, rfl, can_val hk hw5 hc⟩)) hAr hBr⟩
theorem c_downG {l : Launch} {D : va_G} {base : Nat} {h : Hp} {w : Int32} {P : Hp → Int32 → Prop} (hs : SI l D base M_Lm_turned [.ref 0, .int w, .int (-1)] h P) : SI l D base M_Lm_down [.ref 0, .int w] h P := by
  refine SP.of [some (.ref 0), some (.int w)] (by decide) rfl (Nat.le_of_ble_eq_true rfl) ?_
  refine wh_aload_n (pc := 0) d_Lm_down_0 rfl rfl ?_
  refine wh_iload_n (pc := 1) d_Lm_down_1 rfl rfl ?_
  refine wh_iconst (pc := 2) (v := (-1)) d_Lm_down_2 (by decide) ?_
  refine cv_Lm_146_i (pc := 3) rfl d_Lm_down_3 ⟨⟨by decide, by decide⟩, rfl, rfl⟩ (hs) (Nat.le_of_ble_eq_true rfl) (fun h_3 x_3 e_3 => ?_)
  refine wh_iret (pc := 6) d_Lm_down_6 rfl ?_
  exact ⟨_, rfl, e_3⟩
theorem r_downG {l : Launch} {D : va_G} {base : Nat} {h : Hp} {w : Int32} {P : Hp → Int32 → Prop} (hs : SI l D base M_Md_turned [.ref 42, .int w, .int (-1)] (sI h 42 0 0) P) : SI l D base M_Md_down [.ref 42, .int w] h P := by
  refine SP.of [some (.ref 42), some (.int w)] (by decide) rfl (Nat.le_of_ble_eq_true rfl) ?_
  refine wh_aload_n (pc := 0) d_Md_down_0 rfl rfl ?_
  refine wh_iconst (pc := 1) (v := 0) d_Md_down_1 (by decide) ?_
  refine pf_Md_62 (pc := 2) rfl d_Md_down_2 ?_
  refine wh_aload_n (pc := 5) d_Md_down_5 rfl rfl ?_
  refine wh_iload_n (pc := 6) d_Md_down_6 rfl rfl ?_
  refine wh_iconst (pc := 7) (v := (-1)) d_Md_down_7 (by decide) ?_
  refine cv_Md_169_i (pc := 8) rfl d_Md_down_8 ⟨⟨by decide, by decide⟩, rfl, rfl⟩ (hs) (Nat.le_of_ble_eq_true rfl) (fun h_8 x_8 e_8 => ?_)
  refine wh_iret (pc := 11) d_Md_down_11 rfl ?_
  exact ⟨_, rfl, e_8⟩
theorem x_down {l : Launch} {D : va_G} {base : Nat} (w : Int32) : CMD l D base M_Lm_down M_Md_down [.int w] := by
  intro h hr
  obtain ⟨hSt, hF⟩ := hr.street
  have hw5 := hF.1.1
  rcases bI_two (w := w) (n := nW (laneS h 2)) (by omega) with hz | ⟨k, hk, rfl⟩
  · exact c_downG (SI.of (c_turnU hF hz) (r_downG (SI.of (r_turnU (by rw [page_thr, ← hSt]; exact hF) (by rw [page_thr, ← hSt]; exact hz)) ⟨rfl, hr.fm fm_thr⟩)))
  · rcases can_two (laneS h 2) (nI k) (-1) with hc | hc
    · exact c_downG (SI.of (c_turnL hF hk hc) (r_downG (SI.of (r_turnL (by rw [page_thr, ← hSt]; exact hF) (by rw [page_thr, ← hSt]; exact hk) (by rw [page_thr, ← hSt]; exact hc)) ⟨rfl, hr.fm fm_thr⟩)))
    · obtain ⟨n, m, r0, r1, ⟨na, ⟨ha, ra, rb⟩, rs⟩, r3, r4, r5, r6⟩ := hr
      have hWn : nW (laneS h 2) = n := by show (gI h 2 6).toNatClampNeg = n; rw [r0.1.2.1]; exact cl_nI (by have := r0.1.1; omega)
      refine c_downG ((c_turnY hF hk hc r1 ha ra).cons (fun h1 x q => ?_))
      obtain ⟨rfl, hA, hAr, rfl⟩ := q
      have eP : pageS (sI (sI hA 4 k (laneS h 2 1 k + (-1))) 42 0 0) 48 = laneS h 2 := by
        rw [page_thr, page_cls (fun c j q => gI_sN (by omega)), page_cls (fun c j q => hAr.2.2.2.2.2.2 c j (by omega)), hSt]
      refine r_downG ((r_turnY (k := k) (y := (-1)) (na := na) (by rw [eP]; exact hF) (by rw [eP]; exact hk) (by rw [eP]; exact hc) ha (by rw [gI_sI, if_neg (by decide), gI_sN (by decide), hAr.2.2.2.2.2.2 42 17 (by omega)]; exact rb)).cons (fun h2 y q => ?_))
      obtain ⟨rfl, hB, hBr, rfl⟩ := q
      rw [eP]
      exact ⟨rfl, act_one r0 r1 ⟨ha, rs⟩ r3 r4 r5 r6 (Or.inr (Or.inr ⟨by omega, rfl, rfl, can_val hk hw5 hc⟩)) hAr hBr⟩
theorem c_night {l : Launch} {D : va_G} {base : Nat} {h : Hp} (hF : WFS (laneS h 2)) (hR : Rows h) {na : Nat} (ha : na ≤ 14) (hn : gI h 0 6 = nI na) : SI l D base M_Lm_night [.ref 0] h (fun h1 x => x = allF (laneS h 2) ∧ ∃ hA, RMc h hA na (grow na).1 (grow na).2 ∧ h1 = ntH hA 2) := by
  refine SP.of [some (.ref 0)] (by decide) rfl (Nat.le_of_ble_eq_true rfl) ?_
  refine wh_aload_n (pc := 0) d_Lm_night_0 rfl rfl ?_
  refine cv_Lm_152_v (pc := 1) rfl d_Lm_night_1 ⟨⟨by decide, by decide⟩, rfl, rfl⟩ (s_remember hR ha hn) (Nat.le_of_ble_eq_true rfl) (fun h_1 e_1 => ?_)
  refine wh_aload_n (pc := 4) d_Lm_night_4 rfl rfl ?_
  refine gf_Lm_20 (pc := 5) rfl d_Lm_night_5 ?_
  refine cv_Lm_158_d (pc := 8) (Or.inl rfl) rfl d_Lm_night_8 ⟨⟨by decide, by decide⟩, rfl, rfl⟩ (s_night (Or.inl rfl) (rmc_lane e_1) hF) (Nat.le_of_ble_eq_true rfl) ?_
  refine wh_iret (pc := 11) d_Lm_night_11 rfl ?_
  exact ⟨_, rfl, rfl, _, e_1, rfl⟩
theorem r_night {l : Launch} {D : va_G} {base : Nat} {h : Hp} {S : St} (hS : pageS h 48 = S) (hF : WFS S) {na : Nat} (ha : na ≤ 14) (hn : gI h 42 17 = nI na) : SI l D base M_Md_night [.ref 42] h (fun h1 x => x = allF S ∧ ∃ hB, RMm (sI h 42 0 0) hB na (grow na).1 (grow na).2 ∧ h1 = ntP hB 48) := by
  refine SP.of [some (.ref 42)] (by decide) rfl (Nat.le_of_ble_eq_true rfl) ?_
  refine wh_aload_n (pc := 0) d_Md_night_0 rfl rfl ?_
  refine wh_iconst (pc := 1) (v := 0) d_Md_night_1 (by decide) ?_
  refine pf_Md_62 (pc := 2) rfl d_Md_night_2 ?_
  refine wh_aload_n (pc := 5) d_Md_night_5 rfl rfl ?_
  refine cv_Md_166_v (pc := 6) rfl d_Md_night_6 ⟨⟨by decide, by decide⟩, rfl, rfl⟩ (m_note ha (show gI (sI h 42 0 0) 42 17 = nI na by rw [gI_sI, if_neg (by decide)]; exact hn)) (Nat.le_of_ble_eq_true rfl) (fun h_6 e_6 => ?_)
  refine wh_aload_n (pc := 9) d_Md_night_9 rfl rfl ?_
  refine wh_aload_n (pc := 10) d_Md_night_10 rfl rfl ?_
  refine gf_Md_25 (pc := 11) rfl d_Md_night_11 ?_
  refine cv_Md_177_d (pc := 14) rfl d_Md_night_14 ⟨⟨by decide, by decide⟩, rfl, rfl⟩ (m_night (Or.inl rfl) ((rmm_page e_6).trans (page_thr.trans hS)) hF) (Nat.le_of_ble_eq_true rfl) ?_
  refine wh_iret (pc := 17) d_Md_night_17 rfl ?_
  exact ⟨_, rfl, rfl, _, e_6, rfl⟩
theorem x_night {l : Launch} {D : va_G} {base : Nat} : CMD l D base M_Lm_night M_Md_night [] := by
  intro h hr
  have hr0 := hr
  obtain ⟨hSt, hF⟩ := hr.street
  obtain ⟨n, m, r0, r1, ⟨na, ⟨ha, ra, rb⟩, rs⟩, r3, r4, r5, r6⟩ := hr
  refine (c_night hF r1 ha ra).cons (fun h1 x q => ?_)
  obtain ⟨rfl, hA, hAr, rfl⟩ := q
  have eP : pageS (ntH hA 2) 48 = laneS h 2 := by
    rw [page_cls (fun c j q => nt_out (h := hA) (by omega) (by omega) (by omega) (by omega)), page_cls (fun c j q => hAr.2.2.2.2.2.2 c j (by omega)), hSt]
  refine (r_night eP hF ha (by rw [nt_out (by omega) (by decide) (by decide) (by decide), hAr.2.2.2.2.2.2 42 17 (by omega)]; exact rb)).cons (fun h2 y q => ?_)
  obtain ⟨rfl, hB, hBr, rfl⟩ := q
  exact ⟨rfl, (act_night hr0 r0 r1 ⟨ha, rs⟩ r3 r4 r5 r6 hAr hBr).1⟩

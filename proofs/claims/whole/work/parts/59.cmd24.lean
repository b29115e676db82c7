theorem rd4_s {n m : Nat} {T : St} {c : Int32} (h : fg c 8) (h2 : anyN (fun q => decide (T 0 q = c - 48)) n = false) : rdS 4 n m T c = some (5, n, m, setS T 5 4 (c - 48)) := by
  show (if fgB c 8 && !anyN (fun q => decide (T 0 q = c - 48)) n then _ else _) = _
  rw [fgB_t h, h2]; rfl
theorem rd4_n {n m : Nat} {T : St} {c : Int32} (h : ¬ (fg c 8 ∧ anyN (fun q => decide (T 0 q = c - 48)) n = false)) : rdS 4 n m T c = none := by
  show (if fgB c 8 && !anyN (fun q => decide (T 0 q = c - 48)) n then _ else _) = _
  rcases fg_em c 8 with hf | hf
  · cases ha : anyN (fun q => decide (T 0 q = c - 48)) n with
    | true => rw [fgB_t hf]; rfl
    | false => exact absurd ⟨hf, ha⟩ h
  · rw [fgB_f hf]; rfl
theorem rd1_s {n m : Nat} {T : St} {c : Int32} (h : fg c 2) : rdS 1 n m T c = some (2, n, m, setS T 5 2 (c - 48)) := by
  show (if fgB c 2 then _ else _) = _
  rw [fgB_t h]; rfl
theorem rd1_n {n m : Nat} {T : St} {c : Int32} (h : ¬ fg c 2) : rdS 1 n m T c = none := by
  show (if fgB c 2 then _ else _) = _
  rw [fgB_f h]; rfl
theorem rd2_s {n m : Nat} {T : St} {c : Int32} (h : fg c 9) : rdS 2 n m T c = some (3, n, m, setS T 5 3 (c - 48)) := by
  show (if fgB c 9 then _ else _) = _
  rw [fgB_t h]; rfl
theorem rd2_n {n m : Nat} {T : St} {c : Int32} (h : ¬ fg c 9) : rdS 2 n m T c = none := by
  show (if fgB c 9 then _ else _) = _
  rw [fgB_f h]; rfl
theorem rd5_s {n m : Nat} {T : St} {c : Int32} (h : fg c 9) : rdS 5 n m T c = some (6, n, m, setS T 5 5 (c - 48)) := by
  show (if fgB c 9 then _ else _) = _
  rw [fgB_t h]; rfl
theorem rd5_n {n m : Nat} {T : St} {c : Int32} (h : ¬ fg c 9) : rdS 5 n m T c = none := by
  show (if fgB c 9 then _ else _) = _
  rw [fgB_f h]; rfl
theorem rd6_s {n m : Nat} {T : St} {c : Int32} (h : fg c 3) : rdS 6 n m T c = some (3, n + 1, m, setS (setS (setS T 0 n (T 5 4)) 1 n (T 5 5)) 2 n (c - 48)) := by
  show (if fgB c 3 then _ else _) = _
  rw [fgB_t h]; rfl
theorem rd6_n {n m : Nat} {T : St} {c : Int32} (h : ¬ fg c 3) : rdS 6 n m T c = none := by
  show (if fgB c 3 then _ else _) = _
  rw [fgB_f h]; rfl
theorem rd7_s {n m : Nat} {T : St} {c : Int32} (h : fg c 8) : rdS 7 n m T c = some (8, n, m, setS T 5 4 (c - 48)) := by
  show (if fgB c 8 then _ else _) = _
  rw [fgB_t h]; rfl
theorem rd7_n {n m : Nat} {T : St} {c : Int32} (h : ¬ fg c 8) : rdS 7 n m T c = none := by
  show (if fgB c 8 then _ else _) = _
  rw [fgB_f h]; rfl
theorem rd8_s {n m : Nat} {T : St} {c : Int32} (h : fg c 3) : rdS 8 n m T c = some (3, n, m + 1, setS (setS T 3 m (T 5 4)) 4 m (c - 48)) := by
  show (if fgB c 3 then _ else _) = _
  rw [fgB_t h]; rfl
theorem rd8_n {n m : Nat} {T : St} {c : Int32} (h : ¬ fg c 3) : rdS 8 n m T c = none := by
  show (if fgB c 3 then _ else _) = _
  rw [fgB_f h]; rfl
theorem m_rw {l : Launch} {D : va_G} {base : Nat} {h g : Hp} {len i n m : Nat} {T : St} (hfm : FM h g) (hl : gI h 42 2 = nI len) (h56 : len ≤ 56) (hi : i ≤ len) (hR : RMr g i n m T) (w : WR (4, n, m, T)) : SI l D base M_Md_readOneWindow [.ref 42] g (RP h len i (4, n, m, T)) := by
  refine SP.of [some (.ref 42), none, none, none] (by decide) rfl (Nat.le_of_ble_eq_true rfl) ?_
  have hn5 : n < 5 := w.2.2.2.1 (show 4 ≤ 4 ∧ 4 ≤ 6 by decide)
  refine wh_aload_n (pc := 0) d_Md_readOneWindow_0 rfl rfl ?_
  refine cv_Md_89_i (pc := 1) rfl d_Md_readOneWindow_1 ⟨⟨by decide, by decide⟩, rfl, rfl⟩ (m_readPlace (m := m) hfm hl h56 hR.1 hi hR.2.1 hn5 hR.2.2.2.2.2.1) (Nat.le_of_ble_eq_true rfl) (fun h_1 x_1 e_1 => ?_)
  rcases e_1 with ⟨z1, z2, z3⟩ | ⟨z1, z2, z3, z4, z5⟩
  · subst z1
    subst z2
    refine wh_istore_n (pc := 4) (ls2 := [_, _, _, _]) d_Md_readOneWindow_4 rfl (by decide) rfl rfl ?_
    refine wh_iload_n (pc := 5) d_Md_readOneWindow_5 rfl rfl ?_
    refine wh_bipush (pc := 6) (v := (-9)) d_Md_readOneWindow_6 (by decide) ?_
    refine wh_icmp_ne (pc := 8) (tgt := 16) d_Md_readOneWindow_8 (by decide) (fun c_8 => absurd rfl c_8) (fun c_8 => ?_)
    refine wh_bipush (pc := 11) (v := (-9)) d_Md_readOneWindow_11 (by decide) ?_
    refine wh_goto (pc := 13) (tgt := 23) d_Md_readOneWindow_13 (by decide) ?_
    refine wh_istore_n (pc := 23) (ls2 := [_, _, _, _]) d_Md_readOneWindow_23 rfl (by decide) rfl rfl ?_
    refine wh_iload_n (pc := 24) d_Md_readOneWindow_24 rfl rfl ?_
    refine wh_bipush (pc := 25) (v := (-9)) d_Md_readOneWindow_25 (by decide) ?_
    refine wh_icmp_ne (pc := 27) (tgt := 35) d_Md_readOneWindow_27 (by decide) (fun c_27 => absurd (by decide) c_27) (fun c_27 => ?_)
    refine wh_bipush (pc := 30) (v := (-9)) d_Md_readOneWindow_30 (by decide) ?_
    refine wh_goto (pc := 32) (tgt := 41) d_Md_readOneWindow_32 (by decide) ?_
    refine wh_istore_n (pc := 41) (ls2 := [_, _, _, _]) d_Md_readOneWindow_41 rfl (by decide) rfl rfl ?_
    refine wh_iload_n (pc := 42) d_Md_readOneWindow_42 rfl rfl ?_
    refine wh_bipush (pc := 43) (v := (-9)) d_Md_readOneWindow_43 (by decide) ?_
    refine wh_icmp_ne (pc := 45) (tgt := 50) d_Md_readOneWindow_45 (by decide) (fun c_45 => absurd (by decide) c_45) (fun c_45 => ?_)
    refine wh_iconst (pc := 48) (v := 0) d_Md_readOneWindow_48 (by decide) ?_
    refine wh_zret (pc := 49) d_Md_readOneWindow_49 rfl rfl ?_
    exact ⟨_, rfl, hfm, Or.inr ⟨rfl, i, hi, hR.1, rd_out hi (by decide) (z3.imp id (fun z => ⟨z.1, rd4_n z.2⟩))⟩⟩
  · obtain ⟨d0, hd0, hx0⟩ := fg_d (by decide) z2
    subst z4
    subst z5
    have s4 : rdS 4 n m T (gI h 43 i) = some (5, n, m, (setS T 5 4 (gI h 43 (i) - 48))) := rd4_s z2 z3
    refine wh_istore_n (pc := 4) (ls2 := [_, _, _, _]) d_Md_readOneWindow_4 rfl (by decide) rfl rfl ?_
    refine wh_iload_n (pc := 5) d_Md_readOneWindow_5 rfl rfl ?_
    refine wh_bipush (pc := 6) (v := (-9)) d_Md_readOneWindow_6 (by decide) ?_
    refine wh_icmp_ne (pc := 8) (tgt := 16) d_Md_readOneWindow_8 (by decide) (fun c_8 => ?_) (fun c_8 => absurd c_8 (by rw [hx0]; exact nI9 (by omega)))
    refine wh_aload_n (pc := 16) d_Md_readOneWindow_16 rfl rfl ?_
    refine wh_iconst (pc := 17) (v := 0) d_Md_readOneWindow_17 (by decide) ?_
    refine wh_bipush (pc := 18) (v := 9) d_Md_readOneWindow_18 (by decide) ?_
    refine cv_Md_93_i (pc := 20) rfl d_Md_readOneWindow_20 ⟨⟨by decide, by decide⟩, rfl, rfl⟩ (m_fig (i := i + 1) (b := 9) (hfm.tr (fm_sI (by unfold scM; omega))) hl h56 (gI_sS _ _ _ _) (by omega) (by decide)) (Nat.le_of_ble_eq_true rfl) (fun h_20 x_20 e_20 => ?_)
    rcases e_20 with ⟨w1, w2, w3⟩ | ⟨w1, w2, w3, w4⟩
    · subst w1
      subst w2
      refine wh_istore_n (pc := 23) (ls2 := [_, _, _, _]) d_Md_readOneWindow_23 rfl (by decide) rfl rfl ?_
      refine wh_iload_n (pc := 24) d_Md_readOneWindow_24 rfl rfl ?_
      refine wh_bipush (pc := 25) (v := (-9)) d_Md_readOneWindow_25 (by decide) ?_
      refine wh_icmp_ne (pc := 27) (tgt := 35) d_Md_readOneWindow_27 (by decide) (fun c_27 => absurd rfl c_27) (fun c_27 => ?_)
      refine wh_bipush (pc := 30) (v := (-9)) d_Md_readOneWindow_30 (by decide) ?_
      refine wh_goto (pc := 32) (tgt := 41) d_Md_readOneWindow_32 (by decide) ?_
      refine wh_istore_n (pc := 41) (ls2 := [_, _, _, _]) d_Md_readOneWindow_41 rfl (by decide) rfl rfl ?_
      refine wh_iload_n (pc := 42) d_Md_readOneWindow_42 rfl rfl ?_
      refine wh_bipush (pc := 43) (v := (-9)) d_Md_readOneWindow_43 (by decide) ?_
      refine wh_icmp_ne (pc := 45) (tgt := 50) d_Md_readOneWindow_45 (by decide) (fun c_45 => absurd (by decide) c_45) (fun c_45 => ?_)
      refine wh_iconst (pc := 48) (v := 0) d_Md_readOneWindow_48 (by decide) ?_
      refine wh_zret (pc := 49) d_Md_readOneWindow_49 rfl rfl ?_
      refine ⟨_, rfl, (hfm.tr (fm_sI (by unfold scM; omega))), Or.inr ⟨rfl, i + 1, by omega, gI_sS _ _ _ _, ?_⟩⟩
      rw [rd_some (s := (4, n, m, T)) z1 s4]
      exact rd_out (by omega) (by decide) (w3.imp id (fun z => ⟨z.1, rd5_n z.2⟩))
    · obtain ⟨d1, hd1, hx1⟩ := fg_d (by decide) w2
      subst w3
      subst w4
      have s5 : rdS 5 n m (setS T 5 4 (gI h 43 (i) - 48)) (gI h 43 (i + 1)) = some (6, n, m, (setS (setS T 5 4 (gI h 43 (i) - 48)) 5 5 (gI h 43 (i + 1) - 48))) := rd5_s w2
      refine wh_istore_n (pc := 23) (ls2 := [_, _, _, _]) d_Md_readOneWindow_23 rfl (by decide) rfl rfl ?_
      refine wh_iload_n (pc := 24) d_Md_readOneWindow_24 rfl rfl ?_
      refine wh_bipush (pc := 25) (v := (-9)) d_Md_readOneWindow_25 (by decide) ?_
      refine wh_icmp_ne (pc := 27) (tgt := 35) d_Md_readOneWindow_27 (by decide) (fun c_27 => ?_) (fun c_27 => absurd c_27 (by rw [hx1]; exact nI9 (by omega)))
      refine wh_aload_n (pc := 35) d_Md_readOneWindow_35 rfl rfl ?_
      refine wh_iconst (pc := 36) (v := 0) d_Md_readOneWindow_36 (by decide) ?_
      refine wh_iconst (pc := 37) (v := 3) d_Md_readOneWindow_37 (by decide) ?_
      refine cv_Md_93_i (pc := 38) rfl d_Md_readOneWindow_38 ⟨⟨by decide, by decide⟩, rfl, rfl⟩ (m_fig (i := i + 1 + 1) (b := 3) ((hfm.tr (fm_sI (by unfold scM; omega))).tr (fm_sI (by unfold scM; omega))) hl h56 (gI_sS _ _ _ _) (by omega) (by decide)) (Nat.le_of_ble_eq_true rfl) (fun h_38 x_38 e_38 => ?_)
      rcases e_38 with ⟨y1, y2, y3⟩ | ⟨y1, y2, y3, y4⟩
      · subst y1
        subst y2
        refine wh_istore_n (pc := 41) (ls2 := [_, _, _, _]) d_Md_readOneWindow_41 rfl (by decide) rfl rfl ?_
        refine wh_iload_n (pc := 42) d_Md_readOneWindow_42 rfl rfl ?_
        refine wh_bipush (pc := 43) (v := (-9)) d_Md_readOneWindow_43 (by decide) ?_
        refine wh_icmp_ne (pc := 45) (tgt := 50) d_Md_readOneWindow_45 (by decide) (fun c_45 => absurd rfl c_45) (fun c_45 => ?_)
        refine wh_iconst (pc := 48) (v := 0) d_Md_readOneWindow_48 (by decide) ?_
        refine wh_zret (pc := 49) d_Md_readOneWindow_49 rfl rfl ?_
        refine ⟨_, rfl, ((hfm.tr (fm_sI (by unfold scM; omega))).tr (fm_sI (by unfold scM; omega))), Or.inr ⟨rfl, i + 1 + 1, by omega, gI_sS _ _ _ _, ?_⟩⟩
        rw [rd_some (s := (4, n, m, T)) z1 s4, rd_some (s := (5, n, m, (setS T 5 4 (gI h 43 (i) - 48)))) w1 s5]
        exact rd_out (by omega) (by decide) (y3.imp id (fun z => ⟨z.1, rd6_n z.2⟩))
      · obtain ⟨d2, hd2, hx2⟩ := fg_d (by decide) y2
        subst y3
        subst y4
        have e0 : gI (sI (sI (sI g 42 3 (nI (i + 1))) 42 3 (nI (i + 1 + 1))) 42 3 (nI (i + 1 + 1 + 1))) 42 10 = nI n := by rw [gI_sM (by omega), gI_sM (by omega), gI_sM (by omega)]; exact hR.2.1
        have e1 : gI (sI (sI (sI (sI g 42 3 (nI (i + 1))) 42 3 (nI (i + 1 + 1))) 42 3 (nI (i + 1 + 1 + 1))) 46 (3 * n) (gI h 43 (i) - 48)) 42 10 = nI n := by rw [gI_sM (by omega), gI_sM (by omega), gI_sM (by omega), gI_sM (by omega)]; exact hR.2.1
        have e2 : gI (sI (sI (sI (sI (sI g 42 3 (nI (i + 1))) 42 3 (nI (i + 1 + 1))) 42 3 (nI (i + 1 + 1 + 1))) 46 (3 * n) (gI h 43 (i) - 48)) 46 (3 * n + 1) (gI h 43 (i + 1) - 48)) 42 10 = nI n := by rw [gI_sM (by omega), gI_sM (by omega), gI_sM (by omega), gI_sM (by omega), gI_sM (by omega)]; exact hR.2.1
        have e3 : gI (sI (sI (sI (sI (sI (sI g 42 3 (nI (i + 1))) 42 3 (nI (i + 1 + 1))) 42 3 (nI (i + 1 + 1 + 1))) 46 (3 * n) (gI h 43 (i) - 48)) 46 (3 * n + 1) (gI h 43 (i + 1) - 48)) 46 (3 * n + 2) (gI h 43 (i + 1 + 1) - 48)) 42 10 = nI n := by rw [gI_sM (by omega), gI_sM (by omega), gI_sM (by omega), gI_sM (by omega), gI_sM (by omega), gI_sM (by omega)]; exact hR.2.1
        have t0 : (3 : Int32) * nI n = nI (3 * n) := pk_mul 3 n
        have t1 : nI (3 * n) + 1 = nI (3 * n + 1) := nI_add _ 1
        have t2 : nI (3 * n) + 2 = nI (3 * n + 2) := nI_add _ 2
        have s6 : rdS 6 n m (setS (setS T 5 4 (gI h 43 (i) - 48)) 5 5 (gI h 43 (i + 1) - 48)) (gI h 43 (i + 1 + 1)) = some (3, n + 1, m, (setS (setS (setS (setS (setS T 5 4 (gI h 43 (i) - 48)) 5 5 (gI h 43 (i + 1) - 48)) 0 n ((setS (setS T 5 4 (gI h 43 (i) - 48)) 5 5 (gI h 43 (i + 1) - 48)) 5 4)) 1 n ((setS (setS T 5 4 (gI h 43 (i) - 48)) 5 5 (gI h 43 (i + 1) - 48)) 5 5)) 2 n (gI h 43 (i + 1 + 1) - 48))) := rd6_s y2
        refine wh_istore_n (pc := 41) (ls2 := [_, _, _, _]) d_Md_readOneWindow_41 rfl (by decide) rfl rfl ?_
        refine wh_iload_n (pc := 42) d_Md_readOneWindow_42 rfl rfl ?_
        refine wh_bipush (pc := 43) (v := (-9)) d_Md_readOneWindow_43 (by decide) ?_
        refine wh_icmp_ne (pc := 45) (tgt := 50) d_Md_readOneWindow_45 (by decide) (fun c_45 => ?_) (fun c_45 => absurd c_45 (by rw [hx2]; exact nI9 (by omega)))
        refine wh_aload_n (pc := 50) d_Md_readOneWindow_50 rfl rfl ?_
        refine gf_Md_19 (pc := 51) rfl d_Md_readOneWindow_51 ?_
        refine wh_iconst (pc := 54) (v := 3) d_Md_readOneWindow_54 (by decide) ?_
        refine wh_aload_n (pc := 55) d_Md_readOneWindow_55 rfl rfl ?_
        refine gf_Md_86 (pc := 56) rfl d_Md_readOneWindow_56 ?_
        rw [e0]
        refine wh_imul (pc := 59) d_Md_readOneWindow_59 ?_
        rw [t0]
        refine wh_iload_n (pc := 60) d_Md_readOneWindow_60 rfl rfl ?_
        refine wh_iast (pc := 61) d_Md_readOneWindow_61 rfl (by first | exact in_nI (by omega) (by omega) | (simp only [a0, a5, a10, a19]; exact in_nI (by omega) (by omega)) | exact vp_in_iff.mpr (by decide)) ?_
        rw [cl_nI (show 3 * n < 2 ^ 31 by omega)]
        refine wh_aload_n (pc := 62) d_Md_readOneWindow_62 rfl rfl ?_
        refine gf_Md_19 (pc := 63) rfl d_Md_readOneWindow_63 ?_
        refine wh_iconst (pc := 66) (v := 3) d_Md_readOneWindow_66 (by decide) ?_
        refine wh_aload_n (pc := 67) d_Md_readOneWindow_67 rfl rfl ?_
        refine gf_Md_86 (pc := 68) rfl d_Md_readOneWindow_68 ?_
        rw [e1]
        refine wh_imul (pc := 71) d_Md_readOneWindow_71 ?_
        rw [t0]
        refine wh_iconst (pc := 72) (v := 1) d_Md_readOneWindow_72 (by decide) ?_
        refine wh_iadd (pc := 73) d_Md_readOneWindow_73 ?_
        rw [t1]
        refine wh_iload_n (pc := 74) d_Md_readOneWindow_74 rfl rfl ?_
        refine wh_iast (pc := 75) d_Md_readOneWindow_75 rfl (by first | exact in_nI (by omega) (by omega) | (simp only [a0, a5, a10, a19]; exact in_nI (by omega) (by omega)) | exact vp_in_iff.mpr (by decide)) ?_
        rw [cl_nI (show 3 * n + 1 < 2 ^ 31 by omega)]
        refine wh_aload_n (pc := 76) d_Md_readOneWindow_76 rfl rfl ?_
        refine gf_Md_19 (pc := 77) rfl d_Md_readOneWindow_77 ?_
        refine wh_iconst (pc := 80) (v := 3) d_Md_readOneWindow_80 (by decide) ?_
        refine wh_aload_n (pc := 81) d_Md_readOneWindow_81 rfl rfl ?_
        refine gf_Md_86 (pc := 82) rfl d_Md_readOneWindow_82 ?_
        rw [e2]
        refine wh_imul (pc := 85) d_Md_readOneWindow_85 ?_
        rw [t0]
        refine wh_iconst (pc := 86) (v := 2) d_Md_readOneWindow_86 (by decide) ?_
        refine wh_iadd (pc := 87) d_Md_readOneWindow_87 ?_
        rw [t2]
        refine wh_iload_n (pc := 88) d_Md_readOneWindow_88 rfl rfl ?_
        refine wh_iast (pc := 89) d_Md_readOneWindow_89 rfl (by first | exact in_nI (by omega) (by omega) | (simp only [a0, a5, a10, a19]; exact in_nI (by omega) (by omega)) | exact vp_in_iff.mpr (by decide)) ?_
        rw [cl_nI (show 3 * n + 2 < 2 ^ 31 by omega)]
        refine wh_aload_n (pc := 90) d_Md_readOneWindow_90 rfl rfl ?_
        refine wh_dup (pc := 91) d_Md_readOneWindow_91 rfl ?_
        refine gf_Md_86 (pc := 92) rfl d_Md_readOneWindow_92 ?_
        rw [e3]
        refine wh_iconst (pc := 95) (v := 1) d_Md_readOneWindow_95 (by decide) ?_
        refine wh_iadd (pc := 96) d_Md_readOneWindow_96 ?_
        rw [nI_1]
        refine pf_Md_86 (pc := 97) rfl d_Md_readOneWindow_97 ?_
        refine wh_iconst (pc := 100) (v := 1) d_Md_readOneWindow_100 (by decide) ?_
        refine wh_zret (pc := 101) d_Md_readOneWindow_101 rfl rfl ?_
        refine ⟨_, rfl, (((((((hfm.tr (fm_sI (by unfold scM; omega))).tr (fm_sI (by unfold scM; omega))).tr (fm_sI (by unfold scM; omega))).tr (fm_sI (by unfold scM; omega))).tr (fm_sI (by unfold scM; omega))).tr (fm_sI (by unfold scM; omega))).tr (fm_sI (by unfold scM; omega))), Or.inl ⟨rfl, i + 1 + 1 + 1, n + 1, m, (setS (setS (setS (setS (setS T 5 4 (gI h 43 (i) - 48)) 5 5 (gI h 43 (i + 1) - 48)) 0 n ((setS (setS T 5 4 (gI h 43 (i) - 48)) 5 5 (gI h 43 (i + 1) - 48)) 5 4)) 1 n ((setS (setS T 5 4 (gI h 43 (i) - 48)) 5 5 (gI h 43 (i + 1) - 48)) 5 5)) 2 n (gI h 43 (i + 1 + 1) - 48)), by omega, by omega, ?_, WR_s (WR_s (WR_s w s4) s5) s6, ?_⟩⟩
        · obtain ⟨v1, v2, v3, v4, v5, v6, v7⟩ := hR
          refine ⟨?_, gI_sS _ _ _ _, ?_, ?_, ?_, ?_, ?_⟩ <;> simp only [gI_sI, setS] <;> grind
        · exact (rd_some (s := (4, n, m, T)) z1 s4).trans ((rd_some (s := (5, n, m, (setS T 5 4 (gI h 43 (i) - 48)))) w1 s5).trans (rd_some (s := (6, n, m, (setS (setS T 5 4 (gI h 43 (i) - 48)) 5 5 (gI h 43 (i + 1) - 48)))) y1 s6))
theorem m_rm {l : Launch} {D : va_G} {base : Nat} {h g : Hp} {len i n m : Nat} {T : St} (hfm : FM h g) (hl : gI h 42 2 = nI len) (h56 : len ≤ 56) (hi : i ≤ len) (hR : RMr g i n m T) (w : WR (7, n, m, T)) : SI l D base M_Md_readOneMoth [.ref 42] g (RP h len i (7, n, m, T)) := by
  refine SP.of [some (.ref 42), none, none] (by decide) rfl (Nat.le_of_ble_eq_true rfl) ?_
  have hm6 : m < 6 := w.2.2.2.2.1 (show 7 ≤ 7 by decide)
  refine wh_aload_n (pc := 0) d_Md_readOneMoth_0 rfl rfl ?_
  refine wh_iconst (pc := 1) (v := 0) d_Md_readOneMoth_1 (by decide) ?_
  refine wh_bipush (pc := 2) (v := 8) d_Md_readOneMoth_2 (by decide) ?_
  refine cv_Md_93_i (pc := 4) rfl d_Md_readOneMoth_4 ⟨⟨by decide, by decide⟩, rfl, rfl⟩ (m_fig (b := 8) hfm hl h56 hR.1 hi (by decide)) (Nat.le_of_ble_eq_true rfl) (fun h_4 x_4 e_4 => ?_)
  rcases e_4 with ⟨z1, z2, z3⟩ | ⟨z1, z2, z3, z4⟩
  · subst z1
    subst z2
    refine wh_istore_n (pc := 7) (ls2 := [_, _, _]) d_Md_readOneMoth_7 rfl (by decide) rfl rfl ?_
    refine wh_iload_n (pc := 8) d_Md_readOneMoth_8 rfl rfl ?_
    refine wh_bipush (pc := 9) (v := (-9)) d_Md_readOneMoth_9 (by decide) ?_
    refine wh_icmp_ne (pc := 11) (tgt := 19) d_Md_readOneMoth_11 (by decide) (fun c_11 => absurd rfl c_11) (fun c_11 => ?_)
    refine wh_bipush (pc := 14) (v := (-9)) d_Md_readOneMoth_14 (by decide) ?_
    refine wh_goto (pc := 16) (tgt := 25) d_Md_readOneMoth_16 (by decide) ?_
    refine wh_istore_n (pc := 25) (ls2 := [_, _, _]) d_Md_readOneMoth_25 rfl (by decide) rfl rfl ?_
    refine wh_iload_n (pc := 26) d_Md_readOneMoth_26 rfl rfl ?_
    refine wh_bipush (pc := 27) (v := (-9)) d_Md_readOneMoth_27 (by decide) ?_
    refine wh_icmp_ne (pc := 29) (tgt := 34) d_Md_readOneMoth_29 (by decide) (fun c_29 => absurd (by decide) c_29) (fun c_29 => ?_)
    refine wh_iconst (pc := 32) (v := 0) d_Md_readOneMoth_32 (by decide) ?_
    refine wh_zret (pc := 33) d_Md_readOneMoth_33 rfl rfl ?_
    exact ⟨_, rfl, hfm, Or.inr ⟨rfl, i, hi, hR.1, rd_out hi (by decide) (z3.imp id (fun z => ⟨z.1, rd7_n z.2⟩))⟩⟩
  · obtain ⟨d0, hd0, hx0⟩ := fg_d (by decide) z2
    subst z3
    subst z4
    have s7 : rdS 7 n m T (gI h 43 i) = some (8, n, m, (setS T 5 4 (gI h 43 (i) - 48))) := rd7_s z2
    refine wh_istore_n (pc := 7) (ls2 := [_, _, _]) d_Md_readOneMoth_7 rfl (by decide) rfl rfl ?_
    refine wh_iload_n (pc := 8) d_Md_readOneMoth_8 rfl rfl ?_
    refine wh_bipush (pc := 9) (v := (-9)) d_Md_readOneMoth_9 (by decide) ?_
    refine wh_icmp_ne (pc := 11) (tgt := 19) d_Md_readOneMoth_11 (by decide) (fun c_11 => ?_) (fun c_11 => absurd c_11 (by rw [hx0]; exact nI9 (by omega)))
    refine wh_aload_n (pc := 19) d_Md_readOneMoth_19 rfl rfl ?_
    refine wh_iconst (pc := 20) (v := 0) d_Md_readOneMoth_20 (by decide) ?_
    refine wh_iconst (pc := 21) (v := 3) d_Md_readOneMoth_21 (by decide) ?_
    refine cv_Md_93_i (pc := 22) rfl d_Md_readOneMoth_22 ⟨⟨by decide, by decide⟩, rfl, rfl⟩ (m_fig (i := i + 1) (b := 3) (hfm.tr (fm_sI (by unfold scM; omega))) hl h56 (gI_sS _ _ _ _) (by omega) (by decide)) (Nat.le_of_ble_eq_true rfl) (fun h_22 x_22 e_22 => ?_)
    rcases e_22 with ⟨w1, w2, w3⟩ | ⟨w1, w2, w3, w4⟩
    · subst w1
      subst w2
      refine wh_istore_n (pc := 25) (ls2 := [_, _, _]) d_Md_readOneMoth_25 rfl (by decide) rfl rfl ?_
      refine wh_iload_n (pc := 26) d_Md_readOneMoth_26 rfl rfl ?_
      refine wh_bipush (pc := 27) (v := (-9)) d_Md_readOneMoth_27 (by decide) ?_
      refine wh_icmp_ne (pc := 29) (tgt := 34) d_Md_readOneMoth_29 (by decide) (fun c_29 => absurd rfl c_29) (fun c_29 => ?_)
      refine wh_iconst (pc := 32) (v := 0) d_Md_readOneMoth_32 (by decide) ?_
      refine wh_zret (pc := 33) d_Md_readOneMoth_33 rfl rfl ?_
      refine ⟨_, rfl, (hfm.tr (fm_sI (by unfold scM; omega))), Or.inr ⟨rfl, i + 1, by omega, gI_sS _ _ _ _, ?_⟩⟩
      rw [rd_some (s := (7, n, m, T)) z1 s7]
      exact rd_out (by omega) (by decide) (w3.imp id (fun z => ⟨z.1, rd8_n z.2⟩))
    · obtain ⟨d1, hd1, hx1⟩ := fg_d (by decide) w2
      subst w3
      subst w4
      have e0 : gI (sI (sI g 42 3 (nI (i + 1))) 42 3 (nI (i + 1 + 1))) 42 12 = nI m := by rw [gI_sM (by omega), gI_sM (by omega)]; exact hR.2.2.1
      have e1 : gI (sI (sI (sI g 42 3 (nI (i + 1))) 42 3 (nI (i + 1 + 1))) 47 (2 * m) (gI h 43 (i) - 48)) 42 12 = nI m := by rw [gI_sM (by omega), gI_sM (by omega), gI_sM (by omega)]; exact hR.2.2.1
      have e2 : gI (sI (sI (sI (sI g 42 3 (nI (i + 1))) 42 3 (nI (i + 1 + 1))) 47 (2 * m) (gI h 43 (i) - 48)) 47 (2 * m + 1) (gI h 43 (i + 1) - 48)) 42 12 = nI m := by rw [gI_sM (by omega), gI_sM (by omega), gI_sM (by omega), gI_sM (by omega)]; exact hR.2.2.1
      have t0 : (2 : Int32) * nI m = nI (2 * m) := pk_mul 2 m
      have t1 : nI (2 * m) + 1 = nI (2 * m + 1) := nI_add _ 1
      have s8 : rdS 8 n m (setS T 5 4 (gI h 43 (i) - 48)) (gI h 43 (i + 1)) = some (3, n, m + 1, (setS (setS (setS T 5 4 (gI h 43 (i) - 48)) 3 m ((setS T 5 4 (gI h 43 (i) - 48)) 5 4)) 4 m (gI h 43 (i + 1) - 48))) := rd8_s w2
      refine wh_istore_n (pc := 25) (ls2 := [_, _, _]) d_Md_readOneMoth_25 rfl (by decide) rfl rfl ?_
      refine wh_iload_n (pc := 26) d_Md_readOneMoth_26 rfl rfl ?_
      refine wh_bipush (pc := 27) (v := (-9)) d_Md_readOneMoth_27 (by decide) ?_
      refine wh_icmp_ne (pc := 29) (tgt := 34) d_Md_readOneMoth_29 (by decide) (fun c_29 => ?_) (fun c_29 => absurd c_29 (by rw [hx1]; exact nI9 (by omega)))
      refine wh_aload_n (pc := 34) d_Md_readOneMoth_34 rfl rfl ?_
      refine gf_Md_22 (pc := 35) rfl d_Md_readOneMoth_35 ?_
      refine wh_iconst (pc := 38) (v := 2) d_Md_readOneMoth_38 (by decide) ?_
      refine wh_aload_n (pc := 39) d_Md_readOneMoth_39 rfl rfl ?_
      refine gf_Md_97 (pc := 40) rfl d_Md_readOneMoth_40 ?_
      rw [e0]
      refine wh_imul (pc := 43) d_Md_readOneMoth_43 ?_
      rw [t0]
      refine wh_iload_n (pc := 44) d_Md_readOneMoth_44 rfl rfl ?_
      refine wh_iast (pc := 45) d_Md_readOneMoth_45 rfl (by first | exact in_nI (by omega) (by omega) | (simp only [a0, a5, a10, a19]; exact in_nI (by omega) (by omega)) | exact vp_in_iff.mpr (by decide)) ?_
      rw [cl_nI (show 2 * m < 2 ^ 31 by omega)]
      refine wh_aload_n (pc := 46) d_Md_readOneMoth_46 rfl rfl ?_
      refine gf_Md_22 (pc := 47) rfl d_Md_readOneMoth_47 ?_
      refine wh_iconst (pc := 50) (v := 2) d_Md_readOneMoth_50 (by decide) ?_
      refine wh_aload_n (pc := 51) d_Md_readOneMoth_51 rfl rfl ?_
      refine gf_Md_97 (pc := 52) rfl d_Md_readOneMoth_52 ?_
      rw [e1]
      refine wh_imul (pc := 55) d_Md_readOneMoth_55 ?_
      rw [t0]
      refine wh_iconst (pc := 56) (v := 1) d_Md_readOneMoth_56 (by decide) ?_
      refine wh_iadd (pc := 57) d_Md_readOneMoth_57 ?_
      rw [t1]
      refine wh_iload_n (pc := 58) d_Md_readOneMoth_58 rfl rfl ?_
      refine wh_iast (pc := 59) d_Md_readOneMoth_59 rfl (by first | exact in_nI (by omega) (by omega) | (simp only [a0, a5, a10, a19]; exact in_nI (by omega) (by omega)) | exact vp_in_iff.mpr (by decide)) ?_
      rw [cl_nI (show 2 * m + 1 < 2 ^ 31 by omega)]
      refine wh_aload_n (pc := 60) d_Md_readOneMoth_60 rfl rfl ?_
      refine wh_dup (pc := 61) d_Md_readOneMoth_61 rfl ?_
      refine gf_Md_97 (pc := 62) rfl d_Md_readOneMoth_62 ?_
      rw [e2]
      refine wh_iconst (pc := 65) (v := 1) d_Md_readOneMoth_65 (by decide) ?_
      refine wh_iadd (pc := 66) d_Md_readOneMoth_66 ?_
      rw [nI_1]
      refine pf_Md_97 (pc := 67) rfl d_Md_readOneMoth_67 ?_
      refine wh_iconst (pc := 70) (v := 1) d_Md_readOneMoth_70 (by decide) ?_
      refine wh_zret (pc := 71) d_Md_readOneMoth_71 rfl rfl ?_
      refine ⟨_, rfl, (((((hfm.tr (fm_sI (by unfold scM; omega))).tr (fm_sI (by unfold scM; omega))).tr (fm_sI (by unfold scM; omega))).tr (fm_sI (by unfold scM; omega))).tr (fm_sI (by unfold scM; omega))), Or.inl ⟨rfl, i + 1 + 1, n, m + 1, (setS (setS (setS T 5 4 (gI h 43 (i) - 48)) 3 m ((setS T 5 4 (gI h 43 (i) - 48)) 5 4)) 4 m (gI h 43 (i + 1) - 48)), by omega, by omega, ?_, WR_s (WR_s w s7) s8, ?_⟩⟩
      · obtain ⟨v1, v2, v3, v4, v5, v6, v7⟩ := hR
        refine ⟨?_, ?_, gI_sS _ _ _ _, ?_, ?_, ?_, ?_⟩ <;> simp only [gI_sI, setS] <;> grind
      · exact (rd_some (s := (7, n, m, T)) z1 s7).trans (rd_some (s := (8, n, m, (setS T 5 4 (gI h 43 (i) - 48)))) w1 s8)

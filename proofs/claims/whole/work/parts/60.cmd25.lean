theorem m_readPart {l : Launch} {D : va_G} {base : Nat} {h g : Hp} {len i n m : Nat} {T : St} (hfm : FM h g) (hl : gI h 42 2 = nI len) (h56 : len ≤ 56) (hi : i < len) (hR : RMr g i n m T) (w : WR (3, n, m, T)) : SI l D base M_Md_readPart [.ref 42] g (RP h len i (3, n, m, T)) := by
  refine SP.of [some (.ref 42), none] (by decide) rfl (Nat.le_of_ble_eq_true rfl) ?_
  have wn : n ≤ 5 := w.2.1
  have wm : m ≤ 6 := w.2.2.1
  have ht : gI g 43 (nI i).toNatClampNeg = gI h 43 i := by rw [cl_nI (by omega)]; exact hfm.2 43 i (by unfold scM; omega)
  have hR1 : RMr (sI g 42 3 (nI (i + 1))) (i + 1) n m T := by
    obtain ⟨v1, v2, v3, v4, v5, v6, v7⟩ := hR
    refine ⟨gI_sS _ _ _ _, ?_, ?_, ?_, ?_, ?_, ?_⟩ <;> simp only [gI_sI] <;> grind
  by_cases c1 : gI h 43 i = 87
  · by_cases n5 : n < 5
    · have s3 : rdS 3 n m T (gI h 43 i) = some (4, n, m, T) := by show rd3 n m T (gI h 43 i) = _; unfold rd3; rw [if_pos c1, if_pos n5]
      refine wh_aload_n (pc := 0) d_Md_readPart_0 rfl rfl ?_
      refine gf_Md_7 (pc := 1) rfl d_Md_readPart_1 ?_
      refine wh_aload_n (pc := 4) d_Md_readPart_4 rfl rfl ?_
      refine gf_Md_81 (pc := 5) rfl d_Md_readPart_5 ?_
      rw [hR.1]
      refine wh_iald (pc := 8) d_Md_readPart_8 rfl (by first | exact in_nI (by omega) (by omega) | (simp only [a0, a5, a10, a19]; exact in_nI (by omega) (by omega)) | exact vp_in_iff.mpr (by decide)) ?_
      rw [ht]
      refine wh_istore_n (pc := 9) (ls2 := [_, _]) d_Md_readPart_9 rfl (by decide) rfl rfl ?_
      refine wh_aload_n (pc := 10) d_Md_readPart_10 rfl rfl ?_
      refine wh_dup (pc := 11) d_Md_readPart_11 rfl ?_
      refine gf_Md_81 (pc := 12) rfl d_Md_readPart_12 ?_
      rw [hR.1]
      refine wh_iconst (pc := 15) (v := 1) d_Md_readPart_15 (by decide) ?_
      refine wh_iadd (pc := 16) d_Md_readPart_16 ?_
      rw [nI_1]
      refine pf_Md_81 (pc := 17) rfl d_Md_readPart_17 ?_
      refine wh_iload_n (pc := 20) d_Md_readPart_20 rfl rfl ?_
      refine wh_bipush (pc := 21) (v := 87) d_Md_readPart_21 (by decide) ?_
      refine wh_icmp_ne (pc := 23) (tgt := 39) d_Md_readPart_23 (by decide) (fun c_23 => absurd c1 c_23) (fun c_23 => ?_)
      refine wh_aload_n (pc := 26) d_Md_readPart_26 rfl rfl ?_
      refine gf_Md_86 (pc := 27) rfl d_Md_readPart_27 ?_
      refine wh_iconst (pc := 30) (v := 5) d_Md_readPart_30 (by decide) ?_
      refine wh_icmp_ge (pc := 31) (tgt := 39) d_Md_readPart_31 (by decide) (fun c_31 => absurd c_31 (by rw [gI_sM (by decide), hR.2.1]; exact nI_ge (b := 5) n5 (by decide))) (fun c_31 => ?_)
      refine wh_aload_n (pc := 34) d_Md_readPart_34 rfl rfl ?_
      refine cv_Md_100_i (pc := 35) rfl d_Md_readPart_35 ⟨⟨by decide, by decide⟩, rfl, rfl⟩ (m_rw (hfm.tr (fm_sI (by unfold scM; omega))) hl h56 (by omega) hR1 (WR_s w s3)) (Nat.le_of_ble_eq_true rfl) (fun h_35 x_35 e_35 => ?_)
      refine wh_zret (pc := 38) d_Md_readPart_38 rfl (by rcases e_35.2 with ⟨z2, z3⟩ | ⟨z2, z3⟩ <;> rw [z2] <;> rfl) ?_
      refine ⟨_, rfl, e_35.1, ?_⟩
      rcases e_35.2 with ⟨z2, j, n', m', T', z3, z4, z5, z6, z7⟩ | ⟨z2, p, z3, z4, z5⟩
      · exact Or.inl ⟨z2, j, n', m', T', by omega, z4, z5, z6, (rd_some (s := (3, n, m, T)) hi s3).trans z7⟩
      · exact Or.inr ⟨z2, p, z3, z4, by rw [rd_some (s := (3, n, m, T)) hi s3]; exact z5⟩
    · have s3 : rdS 3 n m T (gI h 43 i) = none := by show rd3 n m T (gI h 43 i) = none; unfold rd3; rw [if_pos c1, if_neg n5]
      refine wh_aload_n (pc := 0) d_Md_readPart_0 rfl rfl ?_
      refine gf_Md_7 (pc := 1) rfl d_Md_readPart_1 ?_
      refine wh_aload_n (pc := 4) d_Md_readPart_4 rfl rfl ?_
      refine gf_Md_81 (pc := 5) rfl d_Md_readPart_5 ?_
      rw [hR.1]
      refine wh_iald (pc := 8) d_Md_readPart_8 rfl (by first | exact in_nI (by omega) (by omega) | (simp only [a0, a5, a10, a19]; exact in_nI (by omega) (by omega)) | exact vp_in_iff.mpr (by decide)) ?_
      rw [ht]
      refine wh_istore_n (pc := 9) (ls2 := [_, _]) d_Md_readPart_9 rfl (by decide) rfl rfl ?_
      refine wh_aload_n (pc := 10) d_Md_readPart_10 rfl rfl ?_
      refine wh_dup (pc := 11) d_Md_readPart_11 rfl ?_
      refine gf_Md_81 (pc := 12) rfl d_Md_readPart_12 ?_
      rw [hR.1]
      refine wh_iconst (pc := 15) (v := 1) d_Md_readPart_15 (by decide) ?_
      refine wh_iadd (pc := 16) d_Md_readPart_16 ?_
      rw [nI_1]
      refine pf_Md_81 (pc := 17) rfl d_Md_readPart_17 ?_
      refine wh_iload_n (pc := 20) d_Md_readPart_20 rfl rfl ?_
      refine wh_bipush (pc := 21) (v := 87) d_Md_readPart_21 (by decide) ?_
      refine wh_icmp_ne (pc := 23) (tgt := 39) d_Md_readPart_23 (by decide) (fun c_23 => absurd c1 c_23) (fun c_23 => ?_)
      refine wh_aload_n (pc := 26) d_Md_readPart_26 rfl rfl ?_
      refine gf_Md_86 (pc := 27) rfl d_Md_readPart_27 ?_
      refine wh_iconst (pc := 30) (v := 5) d_Md_readPart_30 (by decide) ?_
      refine wh_icmp_ge (pc := 31) (tgt := 39) d_Md_readPart_31 (by decide) (fun c_31 => ?_) (fun c_31 => absurd (by rw [gI_sM (by decide), hR.2.1]; exact nI_le (a := 5) (by omega) (by omega)) c_31)
      refine wh_iload_n (pc := 39) d_Md_readPart_39 rfl rfl ?_
      refine wh_bipush (pc := 40) (v := 77) d_Md_readPart_40 (by decide) ?_
      refine wh_icmp_ne (pc := 42) (tgt := 59) d_Md_readPart_42 (by decide) (fun c_42 => ?_) (fun c_42 => absurd c_42 (by rw [c1]; decide))
      refine wh_aload_n (pc := 59) d_Md_readPart_59 rfl rfl ?_
      refine wh_dup (pc := 60) d_Md_readPart_60 rfl ?_
      refine gf_Md_81 (pc := 61) rfl d_Md_readPart_61 ?_
      rw [gI_sS]
      refine wh_iconst (pc := 64) (v := 1) d_Md_readPart_64 (by decide) ?_
      refine wh_isub (pc := 65) d_Md_readPart_65 ?_
      rw [show nI (i + 1) - 1 = nI i from nI_pred i]
      refine pf_Md_81 (pc := 66) rfl d_Md_readPart_66 ?_
      refine wh_iconst (pc := 69) (v := 0) d_Md_readPart_69 (by decide) ?_
      refine wh_zret (pc := 70) d_Md_readPart_70 rfl rfl ?_
      refine ⟨_, rfl, (hfm.tr (fm_sI (by unfold scM; omega))).tr (fm_sI (by unfold scM; omega)), Or.inr ⟨rfl, i, by omega, gI_sS _ _ _ _, ?_⟩⟩
      rw [rd_none (s := (3, n, m, T)) hi s3]
  by_cases c2 : gI h 43 i = 77
  · by_cases m6 : m < 6
    · have s3 : rdS 3 n m T (gI h 43 i) = some (7, n, m, T) := by show rd3 n m T (gI h 43 i) = _; unfold rd3; rw [if_neg c1, if_pos ⟨c2, m6⟩]
      refine wh_aload_n (pc := 0) d_Md_readPart_0 rfl rfl ?_
      refine gf_Md_7 (pc := 1) rfl d_Md_readPart_1 ?_
      refine wh_aload_n (pc := 4) d_Md_readPart_4 rfl rfl ?_
      refine gf_Md_81 (pc := 5) rfl d_Md_readPart_5 ?_
      rw [hR.1]
      refine wh_iald (pc := 8) d_Md_readPart_8 rfl (by first | exact in_nI (by omega) (by omega) | (simp only [a0, a5, a10, a19]; exact in_nI (by omega) (by omega)) | exact vp_in_iff.mpr (by decide)) ?_
      rw [ht]
      refine wh_istore_n (pc := 9) (ls2 := [_, _]) d_Md_readPart_9 rfl (by decide) rfl rfl ?_
      refine wh_aload_n (pc := 10) d_Md_readPart_10 rfl rfl ?_
      refine wh_dup (pc := 11) d_Md_readPart_11 rfl ?_
      refine gf_Md_81 (pc := 12) rfl d_Md_readPart_12 ?_
      rw [hR.1]
      refine wh_iconst (pc := 15) (v := 1) d_Md_readPart_15 (by decide) ?_
      refine wh_iadd (pc := 16) d_Md_readPart_16 ?_
      rw [nI_1]
      refine pf_Md_81 (pc := 17) rfl d_Md_readPart_17 ?_
      refine wh_iload_n (pc := 20) d_Md_readPart_20 rfl rfl ?_
      refine wh_bipush (pc := 21) (v := 87) d_Md_readPart_21 (by decide) ?_
      refine wh_icmp_ne (pc := 23) (tgt := 39) d_Md_readPart_23 (by decide) (fun c_23 => ?_) (fun c_23 => absurd c_23 c1)
      refine wh_iload_n (pc := 39) d_Md_readPart_39 rfl rfl ?_
      refine wh_bipush (pc := 40) (v := 77) d_Md_readPart_40 (by decide) ?_
      refine wh_icmp_ne (pc := 42) (tgt := 59) d_Md_readPart_42 (by decide) (fun c_42 => absurd c2 c_42) (fun c_42 => ?_)
      refine wh_aload_n (pc := 45) d_Md_readPart_45 rfl rfl ?_
      refine gf_Md_97 (pc := 46) rfl d_Md_readPart_46 ?_
      refine wh_bipush (pc := 49) (v := 6) d_Md_readPart_49 (by decide) ?_
      refine wh_icmp_ge (pc := 51) (tgt := 59) d_Md_readPart_51 (by decide) (fun c_51 => absurd c_51 (by rw [gI_sM (by decide), hR.2.2.1]; exact nI_ge (b := 6) m6 (by decide))) (fun c_51 => ?_)
      refine wh_aload_n (pc := 54) d_Md_readPart_54 rfl rfl ?_
      refine cv_Md_104_i (pc := 55) rfl d_Md_readPart_55 ⟨⟨by decide, by decide⟩, rfl, rfl⟩ (m_rm (hfm.tr (fm_sI (by unfold scM; omega))) hl h56 (by omega) hR1 (WR_s w s3)) (Nat.le_of_ble_eq_true rfl) (fun h_55 x_55 e_55 => ?_)
      refine wh_zret (pc := 58) d_Md_readPart_58 rfl (by rcases e_55.2 with ⟨z2, z3⟩ | ⟨z2, z3⟩ <;> rw [z2] <;> rfl) ?_
      refine ⟨_, rfl, e_55.1, ?_⟩
      rcases e_55.2 with ⟨z2, j, n', m', T', z3, z4, z5, z6, z7⟩ | ⟨z2, p, z3, z4, z5⟩
      · exact Or.inl ⟨z2, j, n', m', T', by omega, z4, z5, z6, (rd_some (s := (3, n, m, T)) hi s3).trans z7⟩
      · exact Or.inr ⟨z2, p, z3, z4, by rw [rd_some (s := (3, n, m, T)) hi s3]; exact z5⟩
    · have s3 : rdS 3 n m T (gI h 43 i) = none := by show rd3 n m T (gI h 43 i) = none; unfold rd3; rw [if_neg c1, if_neg (fun z => m6 z.2)]
      refine wh_aload_n (pc := 0) d_Md_readPart_0 rfl rfl ?_
      refine gf_Md_7 (pc := 1) rfl d_Md_readPart_1 ?_
      refine wh_aload_n (pc := 4) d_Md_readPart_4 rfl rfl ?_
      refine gf_Md_81 (pc := 5) rfl d_Md_readPart_5 ?_
      rw [hR.1]
      refine wh_iald (pc := 8) d_Md_readPart_8 rfl (by first | exact in_nI (by omega) (by omega) | (simp only [a0, a5, a10, a19]; exact in_nI (by omega) (by omega)) | exact vp_in_iff.mpr (by decide)) ?_
      rw [ht]
      refine wh_istore_n (pc := 9) (ls2 := [_, _]) d_Md_readPart_9 rfl (by decide) rfl rfl ?_
      refine wh_aload_n (pc := 10) d_Md_readPart_10 rfl rfl ?_
      refine wh_dup (pc := 11) d_Md_readPart_11 rfl ?_
      refine gf_Md_81 (pc := 12) rfl d_Md_readPart_12 ?_
      rw [hR.1]
      refine wh_iconst (pc := 15) (v := 1) d_Md_readPart_15 (by decide) ?_
      refine wh_iadd (pc := 16) d_Md_readPart_16 ?_
      rw [nI_1]
      refine pf_Md_81 (pc := 17) rfl d_Md_readPart_17 ?_
      refine wh_iload_n (pc := 20) d_Md_readPart_20 rfl rfl ?_
      refine wh_bipush (pc := 21) (v := 87) d_Md_readPart_21 (by decide) ?_
      refine wh_icmp_ne (pc := 23) (tgt := 39) d_Md_readPart_23 (by decide) (fun c_23 => ?_) (fun c_23 => absurd c_23 c1)
      refine wh_iload_n (pc := 39) d_Md_readPart_39 rfl rfl ?_
      refine wh_bipush (pc := 40) (v := 77) d_Md_readPart_40 (by decide) ?_
      refine wh_icmp_ne (pc := 42) (tgt := 59) d_Md_readPart_42 (by decide) (fun c_42 => absurd c2 c_42) (fun c_42 => ?_)
      refine wh_aload_n (pc := 45) d_Md_readPart_45 rfl rfl ?_
      refine gf_Md_97 (pc := 46) rfl d_Md_readPart_46 ?_
      refine wh_bipush (pc := 49) (v := 6) d_Md_readPart_49 (by decide) ?_
      refine wh_icmp_ge (pc := 51) (tgt := 59) d_Md_readPart_51 (by decide) (fun c_51 => ?_) (fun c_51 => absurd (by rw [gI_sM (by decide), hR.2.2.1]; exact nI_le (a := 6) (by omega) (by omega)) c_51)
      refine wh_aload_n (pc := 59) d_Md_readPart_59 rfl rfl ?_
      refine wh_dup (pc := 60) d_Md_readPart_60 rfl ?_
      refine gf_Md_81 (pc := 61) rfl d_Md_readPart_61 ?_
      rw [gI_sS]
      refine wh_iconst (pc := 64) (v := 1) d_Md_readPart_64 (by decide) ?_
      refine wh_isub (pc := 65) d_Md_readPart_65 ?_
      rw [show nI (i + 1) - 1 = nI i from nI_pred i]
      refine pf_Md_81 (pc := 66) rfl d_Md_readPart_66 ?_
      refine wh_iconst (pc := 69) (v := 0) d_Md_readPart_69 (by decide) ?_
      refine wh_zret (pc := 70) d_Md_readPart_70 rfl rfl ?_
      refine ⟨_, rfl, (hfm.tr (fm_sI (by unfold scM; omega))).tr (fm_sI (by unfold scM; omega)), Or.inr ⟨rfl, i, by omega, gI_sS _ _ _ _, ?_⟩⟩
      rw [rd_none (s := (3, n, m, T)) hi s3]
  have s3 : rdS 3 n m T (gI h 43 i) = none := by show rd3 n m T (gI h 43 i) = none; unfold rd3; rw [if_neg c1, if_neg (fun z => c2 z.1)]
  refine wh_aload_n (pc := 0) d_Md_readPart_0 rfl rfl ?_
  refine gf_Md_7 (pc := 1) rfl d_Md_readPart_1 ?_
  refine wh_aload_n (pc := 4) d_Md_readPart_4 rfl rfl ?_
  refine gf_Md_81 (pc := 5) rfl d_Md_readPart_5 ?_
  rw [hR.1]
  refine wh_iald (pc := 8) d_Md_readPart_8 rfl (by first | exact in_nI (by omega) (by omega) | (simp only [a0, a5, a10, a19]; exact in_nI (by omega) (by omega)) | exact vp_in_iff.mpr (by decide)) ?_
  rw [ht]
  refine wh_istore_n (pc := 9) (ls2 := [_, _]) d_Md_readPart_9 rfl (by decide) rfl rfl ?_
  refine wh_aload_n (pc := 10) d_Md_readPart_10 rfl rfl ?_
  refine wh_dup (pc := 11) d_Md_readPart_11 rfl ?_
  refine gf_Md_81 (pc := 12) rfl d_Md_readPart_12 ?_
  rw [hR.1]
  refine wh_iconst (pc := 15) (v := 1) d_Md_readPart_15 (by decide) ?_
  refine wh_iadd (pc := 16) d_Md_readPart_16 ?_
  rw [nI_1]
  refine pf_Md_81 (pc := 17) rfl d_Md_readPart_17 ?_
  refine wh_iload_n (pc := 20) d_Md_readPart_20 rfl rfl ?_
  refine wh_bipush (pc := 21) (v := 87) d_Md_readPart_21 (by decide) ?_
  refine wh_icmp_ne (pc := 23) (tgt := 39) d_Md_readPart_23 (by decide) (fun c_23 => ?_) (fun c_23 => absurd c_23 c1)
  refine wh_iload_n (pc := 39) d_Md_readPart_39 rfl rfl ?_
  refine wh_bipush (pc := 40) (v := 77) d_Md_readPart_40 (by decide) ?_
  refine wh_icmp_ne (pc := 42) (tgt := 59) d_Md_readPart_42 (by decide) (fun c_42 => ?_) (fun c_42 => absurd c_42 c2)
  refine wh_aload_n (pc := 59) d_Md_readPart_59 rfl rfl ?_
  refine wh_dup (pc := 60) d_Md_readPart_60 rfl ?_
  refine gf_Md_81 (pc := 61) rfl d_Md_readPart_61 ?_
  rw [gI_sS]
  refine wh_iconst (pc := 64) (v := 1) d_Md_readPart_64 (by decide) ?_
  refine wh_isub (pc := 65) d_Md_readPart_65 ?_
  rw [show nI (i + 1) - 1 = nI i from nI_pred i]
  refine pf_Md_81 (pc := 66) rfl d_Md_readPart_66 ?_
  refine wh_iconst (pc := 69) (v := 0) d_Md_readPart_69 (by decide) ?_
  refine wh_zret (pc := 70) d_Md_readPart_70 rfl rfl ?_
  refine ⟨_, rfl, (hfm.tr (fm_sI (by unfold scM; omega))).tr (fm_sI (by unfold scM; omega)), Or.inr ⟨rfl, i, by omega, gI_sS _ _ _ _, ?_⟩⟩
  rw [rd_none (s := (3, n, m, T)) hi s3]
theorem m_rsL {l : Launch} {D : va_G} {base : Nat} {h : Hp} {len : Nat} (hl : gI h 42 2 = nI len) (h56 : len ≤ 56) : ∀ (r i n m : Nat) (T : St) (g : Hp), len - i ≤ r → i ≤ len → FM h g → RMr g i n m T → WR (3, n, m, T) → rdF (gI h 43) len = rdR (gI h 43) (len - i) i (3, n, m, T) → WH l D base M_Md_readStreet 89 [some (.ref 42)] [] g (fun g' r' => ∃ x, r' = some (.int x) ∧ FM h g' ∧ x = (rdF (gI h 43) len).1 ∧ (x = -9 → ∃ n m T, (rdF (gI h 43) len).2 = (3, n, m, T) ∧ RMr g' len n m T ∧ WR (3, n, m, T))) := by
  intro r
  induction r with
  | zero =>
    intro i n m T g hr hi hfm hR w he
    have e : i = len := by omega
    subst e
    rw [rd_end] at he
    have hlg : gI g 42 2 = nI i := (hfm.2 42 2 (by unfold scM; omega)).trans hl
    refine wh_aload_n (pc := 89) d_Md_readStreet_89 rfl rfl ?_
    refine gf_Md_81 (pc := 90) rfl d_Md_readStreet_90 ?_
    refine wh_aload_n (pc := 93) d_Md_readStreet_93 rfl rfl ?_
    refine gf_Md_78 (pc := 94) rfl d_Md_readStreet_94 ?_
    refine wh_icmp_ge (pc := 97) (tgt := 112) d_Md_readStreet_97 (by decide) (fun c_97 => ?_) (fun c_97 => absurd (by rw [hR.1, hlg]; exact nI_le (Nat.le_refl _) (by omega)) c_97)
    refine wh_bipush (pc := 112) (v := (-9)) d_Md_readStreet_112 (by decide) ?_
    refine wh_iret (pc := 114) d_Md_readStreet_114 rfl ?_
    exact ⟨_, rfl, hfm, by rw [he]; rfl, fun _ => ⟨n, m, T, by rw [he], hR, w⟩⟩
  | succ r IH =>
    intro i n m T g hr hi hfm hR w he
    have hlg : gI g 42 2 = nI len := (hfm.2 42 2 (by unfold scM; omega)).trans hl
    by_cases e : i = len
    · subst e
      rw [rd_end] at he
      refine wh_aload_n (pc := 89) d_Md_readStreet_89 rfl rfl ?_
      refine gf_Md_81 (pc := 90) rfl d_Md_readStreet_90 ?_
      refine wh_aload_n (pc := 93) d_Md_readStreet_93 rfl rfl ?_
      refine gf_Md_78 (pc := 94) rfl d_Md_readStreet_94 ?_
      refine wh_icmp_ge (pc := 97) (tgt := 112) d_Md_readStreet_97 (by decide) (fun c_97 => ?_) (fun c_97 => absurd (by rw [hR.1, hlg]; exact nI_le (Nat.le_refl _) (by omega)) c_97)
      refine wh_bipush (pc := 112) (v := (-9)) d_Md_readStreet_112 (by decide) ?_
      refine wh_iret (pc := 114) d_Md_readStreet_114 rfl ?_
      exact ⟨_, rfl, hfm, by rw [he]; rfl, fun _ => ⟨n, m, T, by rw [he], hR, w⟩⟩
    · refine wh_aload_n (pc := 89) d_Md_readStreet_89 rfl rfl ?_
      refine gf_Md_81 (pc := 90) rfl d_Md_readStreet_90 ?_
      refine wh_aload_n (pc := 93) d_Md_readStreet_93 rfl rfl ?_
      refine gf_Md_78 (pc := 94) rfl d_Md_readStreet_94 ?_
      refine wh_icmp_ge (pc := 97) (tgt := 112) d_Md_readStreet_97 (by decide) (fun c_97 => absurd c_97 (by rw [hR.1, hlg]; exact nI_ge (show i < len by omega) (by omega))) (fun c_97 => ?_)
      refine wh_aload_n (pc := 100) d_Md_readStreet_100 rfl rfl ?_
      refine cv_Md_113_i (pc := 101) rfl d_Md_readStreet_101 ⟨⟨by decide, by decide⟩, rfl, rfl⟩ (m_readPart hfm hl h56 (by omega) hR w) (Nat.le_of_ble_eq_true rfl) (fun h_101 x_101 e_101 => ?_)
      refine wh_if_ne (pc := 104) (tgt := 89) d_Md_readStreet_104 (by decide) (fun c_104 => ?_) (fun c_104 => ?_)
      · rcases e_101.2 with ⟨z2, j, n', m', T', z3, z4, z5, z6, z7⟩ | ⟨z2, p, z3, z4, z5⟩
        · exact IH j n' m' T' _ (by omega) z4 e_101.1 z5 z6 (he.trans z7)
        · exact absurd z2 c_104
      · refine wh_aload_n (pc := 107) d_Md_readStreet_107 rfl rfl ?_
        refine gf_Md_81 (pc := 108) rfl d_Md_readStreet_108 ?_
        refine wh_iret (pc := 111) d_Md_readStreet_111 rfl ?_
        rcases e_101.2 with ⟨z2, j, n', m', T', z3, z4, z5, z6, z7⟩ | ⟨z2, p, z3, z4, z5⟩
        · exact absurd (z2.symm.trans c_104) (by decide)
        · exact ⟨_, rfl, e_101.1, by rw [z4, he, z5], fun z => by rw [z4] at z; exact absurd z (nI9 (by omega))⟩
theorem m_readStreet {l : Launch} {D : va_G} {base : Nat} {h g : Hp} {len : Nat} (hfm : FM h g) (hl : gI h 42 2 = nI len) (h56 : len ≤ 56) : SI l D base M_Md_readStreet [.ref 42] g (fun g' x => FM h g' ∧ x = (rdF (gI h 43) len).1 ∧ (x = -9 → ∃ n m T, (rdF (gI h 43) len).2 = (3, n, m, T) ∧ RMr g' len n m T ∧ WR (3, n, m, T))) := by
  refine SP.of [some (.ref 42)] (by decide) rfl (Nat.le_of_ble_eq_true rfl) ?_
  have hlg : gI (sI (sI (sI g 42 3 0) 42 10 0) 42 12 0) 42 2 = nI len := ((((hfm.tr (fm_sI (by unfold scM; omega))).tr (fm_sI (by unfold scM; omega))).tr (fm_sI (by unfold scM; omega))).2 42 2 (by unfold scM; omega)).trans hl
  have hF : rdF (gI h 43) len = rdR (gI h 43) (len - 0) 0 (0, 0, 0, (fun _ _ => 0)) := rfl
  by_cases l0 : len = 0
  · refine wh_aload_n (pc := 0) d_Md_readStreet_0 rfl rfl ?_
    refine wh_iconst (pc := 1) (v := 0) d_Md_readStreet_1 (by decide) ?_
    refine pf_Md_81 (pc := 2) rfl d_Md_readStreet_2 ?_
    refine wh_aload_n (pc := 5) d_Md_readStreet_5 rfl rfl ?_
    refine wh_iconst (pc := 6) (v := 0) d_Md_readStreet_6 (by decide) ?_
    refine pf_Md_86 (pc := 7) rfl d_Md_readStreet_7 ?_
    refine wh_aload_n (pc := 10) d_Md_readStreet_10 rfl rfl ?_
    refine wh_iconst (pc := 11) (v := 0) d_Md_readStreet_11 (by decide) ?_
    refine pf_Md_97 (pc := 12) rfl d_Md_readStreet_12 ?_
    refine wh_aload_n (pc := 15) d_Md_readStreet_15 rfl rfl ?_
    refine gf_Md_78 (pc := 16) rfl d_Md_readStreet_16 ?_
    refine wh_if_eq (pc := 19) (tgt := 33) d_Md_readStreet_19 (by decide) (fun c_19 => ?_) (fun c_19 => absurd (by rw [hlg, l0]; rfl) c_19)
    refine wh_iconst (pc := 33) (v := 0) d_Md_readStreet_33 (by decide) ?_
    refine wh_iret (pc := 34) d_Md_readStreet_34 rfl ?_
    exact ⟨_, rfl, (((hfm.tr (fm_sI (by unfold scM; omega))).tr (fm_sI (by unfold scM; omega))).tr (fm_sI (by unfold scM; omega))), by rw [hF, l0]; rfl, fun z => absurd z (by decide)⟩
  have b19 : ¬ gI (sI (sI (sI g 42 3 0) 42 10 0) 42 12 0) 42 2 = 0 := by rw [hlg]; exact nI_ne0 (by omega) (by omega)
  have ht : gI (sI (sI (sI g 42 3 0) 42 10 0) 42 12 0) 43 (Int32.toNatClampNeg 0) = gI h 43 0 := (((hfm.tr (fm_sI (by unfold scM; omega))).tr (fm_sI (by unfold scM; omega))).tr (fm_sI (by unfold scM; omega))).2 43 0 (by unfold scM; omega)
  by_cases c0 : gI h 43 0 = 76
  · have s0 : rdS 0 0 0 (fun _ _ => 0) (gI h 43 0) = some (1, 0, 0, (fun _ _ => 0)) := by show (if gI h 43 0 = 76 then _ else _) = _; rw [if_pos c0]
    have s0e : rdR (gI h 43) (len - 0) 0 (0, 0, 0, (fun _ _ => 0)) = rdR (gI h 43) (len - 1) 1 (1, 0, 0, (fun _ _ => 0)) := rd_some (s := (0, 0, 0, (fun _ _ => 0))) (by omega) s0
    refine wh_aload_n (pc := 0) d_Md_readStreet_0 rfl rfl ?_
    refine wh_iconst (pc := 1) (v := 0) d_Md_readStreet_1 (by decide) ?_
    refine pf_Md_81 (pc := 2) rfl d_Md_readStreet_2 ?_
    refine wh_aload_n (pc := 5) d_Md_readStreet_5 rfl rfl ?_
    refine wh_iconst (pc := 6) (v := 0) d_Md_readStreet_6 (by decide) ?_
    refine pf_Md_86 (pc := 7) rfl d_Md_readStreet_7 ?_
    refine wh_aload_n (pc := 10) d_Md_readStreet_10 rfl rfl ?_
    refine wh_iconst (pc := 11) (v := 0) d_Md_readStreet_11 (by decide) ?_
    refine pf_Md_97 (pc := 12) rfl d_Md_readStreet_12 ?_
    refine wh_aload_n (pc := 15) d_Md_readStreet_15 rfl rfl ?_
    refine gf_Md_78 (pc := 16) rfl d_Md_readStreet_16 ?_
    refine wh_if_eq (pc := 19) (tgt := 33) d_Md_readStreet_19 (by decide) (fun c_19 => absurd c_19 b19) (fun c_19 => ?_)
    refine wh_aload_n (pc := 22) d_Md_readStreet_22 rfl rfl ?_
    refine gf_Md_7 (pc := 23) rfl d_Md_readStreet_23 ?_
    refine wh_iconst (pc := 26) (v := 0) d_Md_readStreet_26 (by decide) ?_
    refine wh_iald (pc := 27) d_Md_readStreet_27 rfl (in_nI (k := 0) (by decide) (by decide)) ?_
    rw [ht]
    refine wh_bipush (pc := 28) (v := 76) d_Md_readStreet_28 (by decide) ?_
    refine wh_icmp_eq (pc := 30) (tgt := 35) d_Md_readStreet_30 (by decide) (fun c_30 => ?_) (fun c_30 => absurd c0 c_30)
    refine wh_aload_n (pc := 35) d_Md_readStreet_35 rfl rfl ?_
    refine wh_iconst (pc := 36) (v := 1) d_Md_readStreet_36 (by decide) ?_
    refine pf_Md_81 (pc := 37) rfl d_Md_readStreet_37 ?_
    refine wh_aload_n (pc := 40) d_Md_readStreet_40 rfl rfl ?_
    refine wh_aload_n (pc := 41) d_Md_readStreet_41 rfl rfl ?_
    refine wh_iconst (pc := 42) (v := 0) d_Md_readStreet_42 (by decide) ?_
    refine wh_iconst (pc := 43) (v := 2) d_Md_readStreet_43 (by decide) ?_
    refine cv_Md_93_i (pc := 44) rfl d_Md_readStreet_44 ⟨⟨by decide, by decide⟩, rfl, rfl⟩ (m_fig (i := 1) (b := 2) (h := h) ((((hfm.tr (fm_sI (by unfold scM; omega))).tr (fm_sI (by unfold scM; omega))).tr (fm_sI (by unfold scM; omega))).tr (fm_sI (by unfold scM; omega))) hl h56 (gI_sS _ _ _ _) (by omega) (by decide)) (Nat.le_of_ble_eq_true rfl) (fun h_44 x_44 e_44 => ?_)
    rcases e_44 with ⟨z1, z2, z3⟩ | ⟨z1, z2, z3, z4⟩
    · subst z1
      subst z2
      refine pf_Md_107 (pc := 47) rfl d_Md_readStreet_47 ?_
      refine wh_aload_n (pc := 50) d_Md_readStreet_50 rfl rfl ?_
      refine wh_aload_n (pc := 51) d_Md_readStreet_51 rfl rfl ?_
      refine gf_Md_107 (pc := 52) rfl d_Md_readStreet_52 ?_
      refine wh_bipush (pc := 55) (v := (-9)) d_Md_readStreet_55 (by decide) ?_
      rw [gI_sS]
      refine wh_icmp_ne (pc := 57) (tgt := 65) d_Md_readStreet_57 (by decide) (fun c_57 => absurd rfl c_57) (fun c_57 => ?_)
      refine wh_bipush (pc := 60) (v := (-9)) d_Md_readStreet_60 (by decide) ?_
      refine wh_goto (pc := 62) (tgt := 72) d_Md_readStreet_62 (by decide) ?_
      refine pf_Md_110 (pc := 72) rfl d_Md_readStreet_72 ?_
      refine wh_aload_n (pc := 75) d_Md_readStreet_75 rfl rfl ?_
      refine gf_Md_110 (pc := 76) rfl d_Md_readStreet_76 ?_
      refine wh_bipush (pc := 79) (v := (-9)) d_Md_readStreet_79 (by decide) ?_
      rw [gI_sS]
      refine wh_icmp_ne (pc := 81) (tgt := 89) d_Md_readStreet_81 (by decide) (fun c_81 => absurd rfl c_81) (fun c_81 => ?_)
      refine wh_aload_n (pc := 84) d_Md_readStreet_84 rfl rfl ?_
      refine gf_Md_81 (pc := 85) rfl d_Md_readStreet_85 ?_
      rw [gI_sM (by decide), gI_sM (by decide), gI_sS]
      refine wh_iret (pc := 88) d_Md_readStreet_88 rfl ?_
      refine ⟨_, rfl, (((((hfm.tr (fm_sI (by unfold scM; omega))).tr (fm_sI (by unfold scM; omega))).tr (fm_sI (by unfold scM; omega))).tr (fm_sI (by unfold scM; omega))).tr (fm_sI (by unfold scM; omega))).tr (fm_sI (by unfold scM; omega)), ?_, fun z => absurd z (by decide)⟩
      rw [hF, s0e]
      exact (rd_out (by omega) (by decide) (z3.imp id (fun z => ⟨z.1, rd1_n z.2⟩))).symm
    · obtain ⟨d0, hd0, hx0⟩ := fg_d (by decide) z2
      subst z3
      subst z4
      have s1 : rdS 1 0 0 (fun _ _ => 0) (gI h 43 1) = some (2, 0, 0, (setS (fun _ _ => 0) 5 2 (gI h 43 1 - 48))) := rd1_s z2
      have s1e : rdR (gI h 43) (len - 1) 1 (1, 0, 0, (fun _ _ => 0)) = rdR (gI h 43) (len - (1 + 1)) (1 + 1) (2, 0, 0, (setS (fun _ _ => 0) 5 2 (gI h 43 1 - 48))) := rd_some (s := (1, 0, 0, (fun _ _ => 0))) z1 s1
      refine pf_Md_107 (pc := 47) rfl d_Md_readStreet_47 ?_
      refine wh_aload_n (pc := 50) d_Md_readStreet_50 rfl rfl ?_
      refine wh_aload_n (pc := 51) d_Md_readStreet_51 rfl rfl ?_
      refine gf_Md_107 (pc := 52) rfl d_Md_readStreet_52 ?_
      refine wh_bipush (pc := 55) (v := (-9)) d_Md_readStreet_55 (by decide) ?_
      rw [gI_sS]
      refine wh_icmp_ne (pc := 57) (tgt := 65) d_Md_readStreet_57 (by decide) (fun c_57 => ?_) (fun c_57 => absurd c_57 (by rw [hx0]; exact nI9 (by omega)))
      refine wh_aload_n (pc := 65) d_Md_readStreet_65 rfl rfl ?_
      refine wh_iconst (pc := 66) (v := 0) d_Md_readStreet_66 (by decide) ?_
      refine wh_bipush (pc := 67) (v := 9) d_Md_readStreet_67 (by decide) ?_
      refine cv_Md_93_i (pc := 69) rfl d_Md_readStreet_69 ⟨⟨by decide, by decide⟩, rfl, rfl⟩ (m_fig (i := 1 + 1) (b := 9) (h := h) ((((((hfm.tr (fm_sI (by unfold scM; omega))).tr (fm_sI (by unfold scM; omega))).tr (fm_sI (by unfold scM; omega))).tr (fm_sI (by unfold scM; omega))).tr (fm_sI (by unfold scM; omega))).tr (fm_sI (by unfold scM; omega))) hl h56 (by rw [gI_sM (by decide), gI_sS]) (by omega) (by decide)) (Nat.le_of_ble_eq_true rfl) (fun h_69 x_69 e_69 => ?_)
      rcases e_69 with ⟨w1, w2, w3⟩ | ⟨w1, w2, w3, w4⟩
      · subst w1
        subst w2
        refine pf_Md_110 (pc := 72) rfl d_Md_readStreet_72 ?_
        refine wh_aload_n (pc := 75) d_Md_readStreet_75 rfl rfl ?_
        refine gf_Md_110 (pc := 76) rfl d_Md_readStreet_76 ?_
        refine wh_bipush (pc := 79) (v := (-9)) d_Md_readStreet_79 (by decide) ?_
        rw [gI_sS]
        refine wh_icmp_ne (pc := 81) (tgt := 89) d_Md_readStreet_81 (by decide) (fun c_81 => absurd rfl c_81) (fun c_81 => ?_)
        refine wh_aload_n (pc := 84) d_Md_readStreet_84 rfl rfl ?_
        refine gf_Md_81 (pc := 85) rfl d_Md_readStreet_85 ?_
        rw [gI_sM (by decide), gI_sM (by decide), gI_sS]
        refine wh_iret (pc := 88) d_Md_readStreet_88 rfl ?_
        refine ⟨_, rfl, ((((((hfm.tr (fm_sI (by unfold scM; omega))).tr (fm_sI (by unfold scM; omega))).tr (fm_sI (by unfold scM; omega))).tr (fm_sI (by unfold scM; omega))).tr (fm_sI (by unfold scM; omega))).tr (fm_sI (by unfold scM; omega))).tr (fm_sI (by unfold scM; omega)), ?_, fun z => absurd z (nI9 (k := 1 + 1) (by decide))⟩
        rw [hF, s0e, s1e]
        exact (rd_out (by omega) (by decide) (w3.imp id (fun z => ⟨z.1, rd2_n z.2⟩))).symm
      · obtain ⟨d1, hd1, hx1⟩ := fg_d (by decide) w2
        subst w3
        subst w4
        have s2 : rdS 2 0 0 (setS (fun _ _ => 0) 5 2 (gI h 43 1 - 48)) (gI h 43 (1 + 1)) = some (3, 0, 0, (setS (setS (fun _ _ => 0) 5 2 (gI h 43 1 - 48)) 5 3 (gI h 43 (1 + 1) - 48))) := rd2_s w2
        refine pf_Md_110 (pc := 72) rfl d_Md_readStreet_72 ?_
        refine wh_aload_n (pc := 75) d_Md_readStreet_75 rfl rfl ?_
        refine gf_Md_110 (pc := 76) rfl d_Md_readStreet_76 ?_
        refine wh_bipush (pc := 79) (v := (-9)) d_Md_readStreet_79 (by decide) ?_
        rw [gI_sS]
        refine wh_icmp_ne (pc := 81) (tgt := 89) d_Md_readStreet_81 (by decide) (fun c_81 => ?_) (fun c_81 => absurd c_81 (by rw [hx1]; exact nI9 (by omega)))
        refine m_rsL hl h56 len (1 + 1 + 1) 0 0 (setS (setS (fun _ _ => 0) 5 2 (gI h 43 1 - 48)) 5 3 (gI h 43 (1 + 1) - 48)) _ (by omega) (by omega) ?_ ?_ (WR_s (WR_s (WR_s WR_0 s0) s1) s2) ?_
        · exact (((((((hfm.tr (fm_sI (by unfold scM; omega))).tr (fm_sI (by unfold scM; omega))).tr (fm_sI (by unfold scM; omega))).tr (fm_sI (by unfold scM; omega))).tr (fm_sI (by unfold scM; omega))).tr (fm_sI (by unfold scM; omega))).tr (fm_sI (by unfold scM; omega))).tr (fm_sI (by unfold scM; omega))
        · refine ⟨?_, ?_, ?_, ?_, ?_, fun k hk => absurd hk (Nat.not_lt_zero k), fun k hk => absurd hk (Nat.not_lt_zero k)⟩
          · rw [gI_sM (by decide), gI_sS]
          · rw [gI_sM (by decide), gI_sM (by decide), gI_sM (by decide), gI_sM (by decide), gI_sM (by decide), gI_sM (by decide), gI_sS]; rfl
          · rw [gI_sM (by decide), gI_sM (by decide), gI_sM (by decide), gI_sM (by decide), gI_sM (by decide), gI_sS]; rfl
          · rw [gI_sM (by decide), gI_sM (by decide), gI_sS]; rfl
          · rw [gI_sS]; rfl
        · rw [hF, s0e, s1e]; exact rd_some (s := (2, 0, 0, (setS (fun _ _ => 0) 5 2 (gI h 43 1 - 48)))) (by omega) s2
  · have s0 : rdS 0 0 0 (fun _ _ => 0) (gI h 43 0) = none := by show (if gI h 43 0 = 76 then _ else _) = _; rw [if_neg c0]
    refine wh_aload_n (pc := 0) d_Md_readStreet_0 rfl rfl ?_
    refine wh_iconst (pc := 1) (v := 0) d_Md_readStreet_1 (by decide) ?_
    refine pf_Md_81 (pc := 2) rfl d_Md_readStreet_2 ?_
    refine wh_aload_n (pc := 5) d_Md_readStreet_5 rfl rfl ?_
    refine wh_iconst (pc := 6) (v := 0) d_Md_readStreet_6 (by decide) ?_
    refine pf_Md_86 (pc := 7) rfl d_Md_readStreet_7 ?_
    refine wh_aload_n (pc := 10) d_Md_readStreet_10 rfl rfl ?_
    refine wh_iconst (pc := 11) (v := 0) d_Md_readStreet_11 (by decide) ?_
    refine pf_Md_97 (pc := 12) rfl d_Md_readStreet_12 ?_
    refine wh_aload_n (pc := 15) d_Md_readStreet_15 rfl rfl ?_
    refine gf_Md_78 (pc := 16) rfl d_Md_readStreet_16 ?_
    refine wh_if_eq (pc := 19) (tgt := 33) d_Md_readStreet_19 (by decide) (fun c_19 => absurd c_19 b19) (fun c_19 => ?_)
    refine wh_aload_n (pc := 22) d_Md_readStreet_22 rfl rfl ?_
    refine gf_Md_7 (pc := 23) rfl d_Md_readStreet_23 ?_
    refine wh_iconst (pc := 26) (v := 0) d_Md_readStreet_26 (by decide) ?_
    refine wh_iald (pc := 27) d_Md_readStreet_27 rfl (in_nI (k := 0) (by decide) (by decide)) ?_
    rw [ht]
    refine wh_bipush (pc := 28) (v := 76) d_Md_readStreet_28 (by decide) ?_
    refine wh_icmp_eq (pc := 30) (tgt := 35) d_Md_readStreet_30 (by decide) (fun c_30 => absurd c_30 c0) (fun c_30 => ?_)
    refine wh_iconst (pc := 33) (v := 0) d_Md_readStreet_33 (by decide) ?_
    refine wh_iret (pc := 34) d_Md_readStreet_34 rfl ?_
    refine ⟨_, rfl, (((hfm.tr (fm_sI (by unfold scM; omega))).tr (fm_sI (by unfold scM; omega))).tr (fm_sI (by unfold scM; omega))), ?_, fun z => absurd z (by decide)⟩
    rw [hF, rd_none (s := (0, 0, 0, (fun _ _ => 0))) (by omega) s0]; rfl
theorem r_fault {l : Launch} {D : va_G} {base : Nat} {h : Hp} {len : Nat} (hl : gI h 42 2 = nI len) (h56 : len ≤ 56) : SI l D base M_Md_fault [.ref 42] h (fun g x => FM h g ∧ x = (rdF (gI h 43) len).1) := by
  refine SP.of [some (.ref 42)] (by decide) rfl (Nat.le_of_ble_eq_true rfl) ?_
  refine wh_aload_n (pc := 0) d_Md_fault_0 rfl rfl ?_
  refine wh_iconst (pc := 1) (v := 0) d_Md_fault_1 (by decide) ?_
  refine pf_Md_62 (pc := 2) rfl d_Md_fault_2 ?_
  refine wh_aload_n (pc := 5) d_Md_fault_5 rfl rfl ?_
  refine cv_Md_116_i (pc := 6) rfl d_Md_fault_6 ⟨⟨by decide, by decide⟩, rfl, rfl⟩ (m_readStreet (h := h) fm_thr hl h56) (Nat.le_of_ble_eq_true rfl) (fun h_6 x_6 e_6 => ?_)
  refine wh_iret (pc := 9) d_Md_fault_9 rfl ?_
  exact ⟨_, rfl, e_6.1, e_6.2.1⟩
def lenF (h : Hp) : Nat := (gI h 0 1).toNatClampNeg
theorem Rel.text {h : Hp} (r : Rel h) : lenF h ≤ 56 ∧ gI h 0 1 = nI (lenF h) ∧ gI h 42 2 = nI (lenF h) ∧ rdF (gI h 1) (lenF h) = rdF (gI h 43) (lenF h) := by
  obtain ⟨n, m, r1, r2, r3, r4, r5, ⟨len, ⟨t1, t2, t3⟩, t4⟩, r7⟩ := r
  have e : lenF h = len := by unfold lenF; rw [t2]; exact cl_nI (by omega)
  rw [e]
  exact ⟨t1, t2, t3, rd_congr len 0 rd0 (fun k _ hk => t4 k (by omega))⟩
theorem x_fault {l : Launch} {D : va_G} {base : Nat} : CMD l D base M_Lm_fault M_Md_fault [] := CMD.q (fun h => (rdF (gI h 1) (lenF h)).1) (fun h h' f _ => by
  have e : lenF h' = lenF h := by unfold lenF; rw [f.2 0 1 (by unfold scC; omega)]
  have e2 : gI h' 1 = gI h 1 := funext (fun j => f.2 1 j (by unfold scC; omega))
  show (rdF (gI h' 1) (lenF h')).1 = (rdF (gI h 1) (lenF h)).1
  rw [e, e2]) (fun h hr => c_fault hr.text.2.1 hr.text.1) (fun h hr => (r_fault hr.text.2.2.1 hr.text.1).cons (fun g x e => ⟨e.1, by rw [e.2, hr.text.2.2.2]⟩))

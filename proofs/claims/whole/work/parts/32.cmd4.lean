theorem s_isWind {l : Launch} {D : va_G} {base : Nat} {w : Int32} {h : Hp} : SD l D base M_Lm_isWind [.int w] h (some (.int (rg w 0 2))) h := by
  refine SP.of [some (.int w)] (by decide) rfl (Nat.le_of_ble_eq_true rfl) ?_
  refine wh_iload_n (pc := 0) d_Lm_isWind_0 rfl rfl ?_
  refine wh_if_lt (pc := 1) (tgt := 13) d_Lm_isWind_1 (by decide) (fun c_1 => ?_) (fun c_1 => ?_)
  · refine wh_iconst (pc := 13) (v := 0) d_Lm_isWind_13 (by decide) ?_
    refine wh_zret (pc := 14) d_Lm_isWind_14 rfl rfl ?_
    refine ⟨rfl, ?_⟩
    first
      | (rw [rg_no (Or.inl c_1)]; done)
      | (rw [rg_no (Or.inr c_6)]; done)
      | (rw [rg_no (Or.inr c_7)]; done)
      | (rw [rg_yes (fun z => z.elim c_1 c_6)]; done)
      | (rw [rg_yes (fun z => z.elim c_1 c_7)]; done)
  · refine wh_iload_n (pc := 4) d_Lm_isWind_4 rfl rfl ?_
    refine wh_iconst (pc := 5) (v := 2) d_Lm_isWind_5 (by decide) ?_
    refine wh_icmp_gt (pc := 6) (tgt := 13) d_Lm_isWind_6 (by decide) (fun c_6 => ?_) (fun c_6 => ?_)
    · refine wh_iconst (pc := 13) (v := 0) d_Lm_isWind_13 (by decide) ?_
      refine wh_zret (pc := 14) d_Lm_isWind_14 rfl rfl ?_
      refine ⟨rfl, ?_⟩
      first
        | (rw [rg_no (Or.inl c_1)]; done)
        | (rw [rg_no (Or.inr c_6)]; done)
        | (rw [rg_no (Or.inr c_7)]; done)
        | (rw [rg_yes (fun z => z.elim c_1 c_6)]; done)
        | (rw [rg_yes (fun z => z.elim c_1 c_7)]; done)
    · refine wh_iconst (pc := 9) (v := 1) d_Lm_isWind_9 (by decide) ?_
      refine wh_goto (pc := 10) (tgt := 14) d_Lm_isWind_10 (by decide) ?_
      refine wh_zret (pc := 14) d_Lm_isWind_14 rfl rfl ?_
      refine ⟨rfl, ?_⟩
      first
        | (rw [rg_no (Or.inl c_1)]; done)
        | (rw [rg_no (Or.inr c_6)]; done)
        | (rw [rg_no (Or.inr c_7)]; done)
        | (rw [rg_yes (fun z => z.elim c_1 c_6)]; done)
        | (rw [rg_yes (fun z => z.elim c_1 c_7)]; done)
theorem s_isHoney {l : Launch} {D : va_G} {base : Nat} {w : Int32} {h : Hp} : SD l D base M_Lm_isHoneyPlace [.int w] h (some (.int (rg w 0 9))) h := by
  refine SP.of [some (.int w)] (by decide) rfl (Nat.le_of_ble_eq_true rfl) ?_
  refine wh_iload_n (pc := 0) d_Lm_isHoneyPlace_0 rfl rfl ?_
  refine wh_if_lt (pc := 1) (tgt := 14) d_Lm_isHoneyPlace_1 (by decide) (fun c_1 => ?_) (fun c_1 => ?_)
  · refine wh_iconst (pc := 14) (v := 0) d_Lm_isHoneyPlace_14 (by decide) ?_
    refine wh_zret (pc := 15) d_Lm_isHoneyPlace_15 rfl rfl ?_
    refine ⟨rfl, ?_⟩
    first
      | (rw [rg_no (Or.inl c_1)]; done)
      | (rw [rg_no (Or.inr c_6)]; done)
      | (rw [rg_no (Or.inr c_7)]; done)
      | (rw [rg_yes (fun z => z.elim c_1 c_6)]; done)
      | (rw [rg_yes (fun z => z.elim c_1 c_7)]; done)
  · refine wh_iload_n (pc := 4) d_Lm_isHoneyPlace_4 rfl rfl ?_
    refine wh_bipush (pc := 5) (v := 9) d_Lm_isHoneyPlace_5 (by decide) ?_
    refine wh_icmp_gt (pc := 7) (tgt := 14) d_Lm_isHoneyPlace_7 (by decide) (fun c_7 => ?_) (fun c_7 => ?_)
    · refine wh_iconst (pc := 14) (v := 0) d_Lm_isHoneyPlace_14 (by decide) ?_
      refine wh_zret (pc := 15) d_Lm_isHoneyPlace_15 rfl rfl ?_
      refine ⟨rfl, ?_⟩
      first
        | (rw [rg_no (Or.inl c_1)]; done)
        | (rw [rg_no (Or.inr c_6)]; done)
        | (rw [rg_no (Or.inr c_7)]; done)
        | (rw [rg_yes (fun z => z.elim c_1 c_6)]; done)
        | (rw [rg_yes (fun z => z.elim c_1 c_7)]; done)
    · refine wh_iconst (pc := 10) (v := 1) d_Lm_isHoneyPlace_10 (by decide) ?_
      refine wh_goto (pc := 11) (tgt := 15) d_Lm_isHoneyPlace_11 (by decide) ?_
      refine wh_zret (pc := 15) d_Lm_isHoneyPlace_15 rfl rfl ?_
      refine ⟨rfl, ?_⟩
      first
        | (rw [rg_no (Or.inl c_1)]; done)
        | (rw [rg_no (Or.inr c_6)]; done)
        | (rw [rg_no (Or.inr c_7)]; done)
        | (rw [rg_yes (fun z => z.elim c_1 c_6)]; done)
        | (rw [rg_yes (fun z => z.elim c_1 c_7)]; done)
theorem s_isSum {l : Launch} {D : va_G} {base : Nat} {w : Int32} {h : Hp} : SD l D base M_Lm_isSum [.int w] h (some (.int (rg w 0 99))) h := by
  refine SP.of [some (.int w)] (by decide) rfl (Nat.le_of_ble_eq_true rfl) ?_
  refine wh_iload_n (pc := 0) d_Lm_isSum_0 rfl rfl ?_
  refine wh_if_lt (pc := 1) (tgt := 14) d_Lm_isSum_1 (by decide) (fun c_1 => ?_) (fun c_1 => ?_)
  · refine wh_iconst (pc := 14) (v := 0) d_Lm_isSum_14 (by decide) ?_
    refine wh_zret (pc := 15) d_Lm_isSum_15 rfl rfl ?_
    refine ⟨rfl, ?_⟩
    first
      | (rw [rg_no (Or.inl c_1)]; done)
      | (rw [rg_no (Or.inr c_6)]; done)
      | (rw [rg_no (Or.inr c_7)]; done)
      | (rw [rg_yes (fun z => z.elim c_1 c_6)]; done)
      | (rw [rg_yes (fun z => z.elim c_1 c_7)]; done)
  · refine wh_iload_n (pc := 4) d_Lm_isSum_4 rfl rfl ?_
    refine wh_bipush (pc := 5) (v := 99) d_Lm_isSum_5 (by decide) ?_
    refine wh_icmp_gt (pc := 7) (tgt := 14) d_Lm_isSum_7 (by decide) (fun c_7 => ?_) (fun c_7 => ?_)
    · refine wh_iconst (pc := 14) (v := 0) d_Lm_isSum_14 (by decide) ?_
      refine wh_zret (pc := 15) d_Lm_isSum_15 rfl rfl ?_
      refine ⟨rfl, ?_⟩
      first
        | (rw [rg_no (Or.inl c_1)]; done)
        | (rw [rg_no (Or.inr c_6)]; done)
        | (rw [rg_no (Or.inr c_7)]; done)
        | (rw [rg_yes (fun z => z.elim c_1 c_6)]; done)
        | (rw [rg_yes (fun z => z.elim c_1 c_7)]; done)
    · refine wh_iconst (pc := 10) (v := 1) d_Lm_isSum_10 (by decide) ?_
      refine wh_goto (pc := 11) (tgt := 15) d_Lm_isSum_11 (by decide) ?_
      refine wh_zret (pc := 15) d_Lm_isSum_15 rfl rfl ?_
      refine ⟨rfl, ?_⟩
      first
        | (rw [rg_no (Or.inl c_1)]; done)
        | (rw [rg_no (Or.inr c_6)]; done)
        | (rw [rg_no (Or.inr c_7)]; done)
        | (rw [rg_yes (fun z => z.elim c_1 c_6)]; done)
        | (rw [rg_yes (fun z => z.elim c_1 c_7)]; done)
theorem c_blowB {l : Launch} {D : va_G} {base : Nat} {h : Hp} {w : Int32} (hb : w < 0 ∨ 2 < w) : SD l D base M_Lm_blow [.ref 0, .int w] h (some (.int (-2))) h := by
  refine SP.of [some (.ref 0), some (.int w), none] (by decide) rfl (Nat.le_of_ble_eq_true rfl) ?_
  refine wh_iload_n (pc := 0) d_Lm_blow_0 rfl rfl ?_
  refine cs_Lm_149_d (pc := 1) rfl d_Lm_blow_1 ⟨⟨by decide, by decide⟩, rfl, rfl⟩ (s_isWind) (Nat.le_of_ble_eq_true rfl) ?_
  refine wh_if_ne (pc := 4) (tgt := 10) d_Lm_blow_4 (by decide) (fun c_4 => absurd (rg_no hb) c_4) (fun c_4 => ?_)
  refine wh_bipush (pc := 7) (v := (-2)) d_Lm_blow_7 (by decide) ?_
  refine wh_iret (pc := 9) d_Lm_blow_9 rfl ?_
  exact ⟨rfl, rfl⟩
theorem c_blowL {l : Launch} {D : va_G} {base : Nat} {h : Hp} {w : Int32} (hb : ¬ (w < 0 ∨ 2 < w)) (he : gI h 2 8 = w) : SD l D base M_Lm_blow [.ref 0, .int w] h (some (.int (-3))) h := by
  refine SP.of [some (.ref 0), some (.int w), none] (by decide) rfl (Nat.le_of_ble_eq_true rfl) ?_
  refine wh_iload_n (pc := 0) d_Lm_blow_0 rfl rfl ?_
  refine cs_Lm_149_d (pc := 1) rfl d_Lm_blow_1 ⟨⟨by decide, by decide⟩, rfl, rfl⟩ (s_isWind) (Nat.le_of_ble_eq_true rfl) ?_
  refine wh_if_ne (pc := 4) (tgt := 10) d_Lm_blow_4 (by decide) (fun c_4 => ?_) (fun c_4 => absurd c_4 (by rw [rg_yes hb]; decide))
  refine wh_aload_n (pc := 10) d_Lm_blow_10 rfl rfl ?_
  refine gf_Lm_20 (pc := 11) rfl d_Lm_blow_11 ?_
  refine gf_Lm_82 (pc := 14) (Or.inl rfl) rfl d_Lm_blow_14 ?_
  refine wh_iload_n (pc := 17) d_Lm_blow_17 rfl rfl ?_
  refine wh_icmp_ne (pc := 18) (tgt := 24) d_Lm_blow_18 (by decide) (fun c_18 => absurd he c_18) (fun c_18 => ?_)
  refine wh_bipush (pc := 21) (v := (-3)) d_Lm_blow_21 (by decide) ?_
  refine wh_iret (pc := 23) d_Lm_blow_23 rfl ?_
  exact ⟨rfl, rfl⟩
theorem c_blowY {l : Launch} {D : va_G} {base : Nat} {h : Hp} {w : Int32} (hb : ¬ (w < 0 ∨ 2 < w)) (he : ¬ gI h 2 8 = w) (hR : Rows h) {na : Nat} (ha : na ≤ 14) (hn : gI h 0 6 = nI na) : SI l D base M_Lm_blow [.ref 0, .int w] h (fun h1 x => x = gI h 2 8 ∧ ∃ hA, RMc h hA na (grow na).1 (grow na).2 ∧ h1 = sI hA 2 8 w) := by
  refine SP.of [some (.ref 0), some (.int w), none] (by decide) rfl (Nat.le_of_ble_eq_true rfl) ?_
  refine wh_iload_n (pc := 0) d_Lm_blow_0 rfl rfl ?_
  refine cs_Lm_149_d (pc := 1) rfl d_Lm_blow_1 ⟨⟨by decide, by decide⟩, rfl, rfl⟩ (s_isWind) (Nat.le_of_ble_eq_true rfl) ?_
  refine wh_if_ne (pc := 4) (tgt := 10) d_Lm_blow_4 (by decide) (fun c_4 => ?_) (fun c_4 => absurd c_4 (by rw [rg_yes hb]; decide))
  refine wh_aload_n (pc := 10) d_Lm_blow_10 rfl rfl ?_
  refine gf_Lm_20 (pc := 11) rfl d_Lm_blow_11 ?_
  refine gf_Lm_82 (pc := 14) (Or.inl rfl) rfl d_Lm_blow_14 ?_
  refine wh_iload_n (pc := 17) d_Lm_blow_17 rfl rfl ?_
  refine wh_icmp_ne (pc := 18) (tgt := 24) d_Lm_blow_18 (by decide) (fun c_18 => ?_) (fun c_18 => absurd c_18 he)
  refine wh_aload_n (pc := 24) d_Lm_blow_24 rfl rfl ?_
  refine cv_Lm_152_v (pc := 25) rfl d_Lm_blow_25 ⟨⟨by decide, by decide⟩, rfl, rfl⟩ (s_remember hR ha hn) (Nat.le_of_ble_eq_true rfl) (fun h_25 e_25 => ?_)
  refine wh_aload_n (pc := 28) d_Lm_blow_28 rfl rfl ?_
  refine gf_Lm_20 (pc := 29) rfl d_Lm_blow_29 ?_
  refine gf_Lm_82 (pc := 32) (Or.inl rfl) rfl d_Lm_blow_32 ?_
  refine wh_istore_n (pc := 35) (ls2 := [_, _, _]) d_Lm_blow_35 rfl (by decide) rfl rfl ?_
  refine wh_aload_n (pc := 36) d_Lm_blow_36 rfl rfl ?_
  refine gf_Lm_20 (pc := 37) rfl d_Lm_blow_37 ?_
  refine wh_iload_n (pc := 40) d_Lm_blow_40 rfl rfl ?_
  refine pf_Lm_82 (pc := 41) (Or.inl rfl) rfl d_Lm_blow_41 ?_
  refine wh_iload_n (pc := 44) d_Lm_blow_44 rfl rfl ?_
  refine wh_iret (pc := 45) d_Lm_blow_45 rfl ?_
  exact ⟨_, rfl, e_25.2.2.2.2.2.2 2 8 (by omega), _, e_25, rfl⟩
theorem r_blowB {l : Launch} {D : va_G} {base : Nat} {h : Hp} {w : Int32} (hb : w < 0 ∨ 2 < w) : SD l D base M_Md_blow [.ref 42, .int w] h (some (.int (-2))) (sI h 42 0 0) := by
  refine SP.of [some (.ref 42), some (.int w), none] (by decide) rfl (Nat.le_of_ble_eq_true rfl) ?_
  refine wh_aload_n (pc := 0) d_Md_blow_0 rfl rfl ?_
  refine wh_iconst (pc := 1) (v := 0) d_Md_blow_1 (by decide) ?_
  refine pf_Md_62 (pc := 2) rfl d_Md_blow_2 ?_
  refine wh_iload_n (pc := 5) d_Md_blow_5 rfl rfl ?_
  refine wh_i2l (pc := 6) d_Md_blow_6 ?_
  refine wh_lconst (pc := 7) (v := 0) d_Md_blow_7 (by decide) ?_
  refine wh_ldc2 (pc := 8) d_Md_blow_8 kc_Md_172 ?_
  refine cs_Md_69_d (pc := 11) rfl d_Md_blow_11 ⟨⟨by decide, by decide⟩, rfl, rfl⟩ (m_in) (Nat.le_of_ble_eq_true rfl) ?_
  refine wh_if_ne (pc := 14) (tgt := 20) d_Md_blow_14 (by decide) (fun c_14 => absurd ((inL w 0 2 rfl rfl).mpr hb) c_14) (fun c_14 => ?_)
  refine wh_bipush (pc := 17) (v := (-2)) d_Md_blow_17 (by decide) ?_
  refine wh_iret (pc := 19) d_Md_blow_19 rfl ?_
  exact ⟨rfl, rfl⟩
theorem r_blowL {l : Launch} {D : va_G} {base : Nat} {h : Hp} {w : Int32} (hb : ¬ (w < 0 ∨ 2 < w)) (he : gI h 48 16 = w) : SD l D base M_Md_blow [.ref 42, .int w] h (some (.int (-3))) (sI h 42 0 0) := by
  refine SP.of [some (.ref 42), some (.int w), none] (by decide) rfl (Nat.le_of_ble_eq_true rfl) ?_
  refine wh_aload_n (pc := 0) d_Md_blow_0 rfl rfl ?_
  refine wh_iconst (pc := 1) (v := 0) d_Md_blow_1 (by decide) ?_
  refine pf_Md_62 (pc := 2) rfl d_Md_blow_2 ?_
  refine wh_iload_n (pc := 5) d_Md_blow_5 rfl rfl ?_
  refine wh_i2l (pc := 6) d_Md_blow_6 ?_
  refine wh_lconst (pc := 7) (v := 0) d_Md_blow_7 (by decide) ?_
  refine wh_ldc2 (pc := 8) d_Md_blow_8 kc_Md_172 ?_
  refine cs_Md_69_d (pc := 11) rfl d_Md_blow_11 ⟨⟨by decide, by decide⟩, rfl, rfl⟩ (m_in) (Nat.le_of_ble_eq_true rfl) ?_
  refine wh_if_ne (pc := 14) (tgt := 20) d_Md_blow_14 (by decide) (fun c_14 => ?_) (fun c_14 => absurd c_14 (fun z => hb ((inL w 0 2 rfl rfl).mp z)))
  refine wh_aload_n (pc := 20) d_Md_blow_20 rfl rfl ?_
  refine gf_Md_25 (pc := 21) rfl d_Md_blow_21 ?_
  refine wh_bipush (pc := 24) (v := 16) d_Md_blow_24 (by decide) ?_
  refine wh_iald (pc := 26) d_Md_blow_26 rfl (by first | exact in_nI (by omega) (by omega) | (simp only [a0, a5, a10, a19]; exact in_nI (by omega) (by omega)) | exact vp_in_iff.mpr (by decide)) ?_
  refine wh_istore_n (pc := 27) (ls2 := [_, _, _]) d_Md_blow_27 rfl (by decide) rfl rfl ?_
  refine wh_iload_n (pc := 28) d_Md_blow_28 rfl rfl ?_
  refine wh_iload_n (pc := 29) d_Md_blow_29 rfl rfl ?_
  refine wh_icmp_ne (pc := 30) (tgt := 36) d_Md_blow_30 (by decide) (fun c_30 => absurd he c_30) (fun c_30 => ?_)
  refine wh_bipush (pc := 33) (v := (-3)) d_Md_blow_33 (by decide) ?_
  refine wh_iret (pc := 35) d_Md_blow_35 rfl ?_
  exact ⟨rfl, rfl⟩
theorem r_blowY {l : Launch} {D : va_G} {base : Nat} {h : Hp} {w : Int32} (hb : ¬ (w < 0 ∨ 2 < w)) (he : ¬ gI h 48 16 = w) {na : Nat} (ha : na ≤ 14) (hn : gI h 42 17 = nI na) : SI l D base M_Md_blow [.ref 42, .int w] h (fun h1 x => x = gI h 48 16 ∧ ∃ hB, RMm (sI h 42 0 0) hB na (grow na).1 (grow na).2 ∧ h1 = sI hB 48 16 w) := by
  refine SP.of [some (.ref 42), some (.int w), none] (by decide) rfl (Nat.le_of_ble_eq_true rfl) ?_
  refine wh_aload_n (pc := 0) d_Md_blow_0 rfl rfl ?_
  refine wh_iconst (pc := 1) (v := 0) d_Md_blow_1 (by decide) ?_
  refine pf_Md_62 (pc := 2) rfl d_Md_blow_2 ?_
  refine wh_iload_n (pc := 5) d_Md_blow_5 rfl rfl ?_
  refine wh_i2l (pc := 6) d_Md_blow_6 ?_
  refine wh_lconst (pc := 7) (v := 0) d_Md_blow_7 (by decide) ?_
  refine wh_ldc2 (pc := 8) d_Md_blow_8 kc_Md_172 ?_
  refine cs_Md_69_d (pc := 11) rfl d_Md_blow_11 ⟨⟨by decide, by decide⟩, rfl, rfl⟩ (m_in) (Nat.le_of_ble_eq_true rfl) ?_
  refine wh_if_ne (pc := 14) (tgt := 20) d_Md_blow_14 (by decide) (fun c_14 => ?_) (fun c_14 => absurd c_14 (fun z => hb ((inL w 0 2 rfl rfl).mp z)))
  refine wh_aload_n (pc := 20) d_Md_blow_20 rfl rfl ?_
  refine gf_Md_25 (pc := 21) rfl d_Md_blow_21 ?_
  refine wh_bipush (pc := 24) (v := 16) d_Md_blow_24 (by decide) ?_
  refine wh_iald (pc := 26) d_Md_blow_26 rfl (by first | exact in_nI (by omega) (by omega) | (simp only [a0, a5, a10, a19]; exact in_nI (by omega) (by omega)) | exact vp_in_iff.mpr (by decide)) ?_
  refine wh_istore_n (pc := 27) (ls2 := [_, _, _]) d_Md_blow_27 rfl (by decide) rfl rfl ?_
  refine wh_iload_n (pc := 28) d_Md_blow_28 rfl rfl ?_
  refine wh_iload_n (pc := 29) d_Md_blow_29 rfl rfl ?_
  refine wh_icmp_ne (pc := 30) (tgt := 36) d_Md_blow_30 (by decide) (fun c_30 => ?_) (fun c_30 => absurd c_30 he)
  refine wh_aload_n (pc := 36) d_Md_blow_36 rfl rfl ?_
  refine cv_Md_166_v (pc := 37) rfl d_Md_blow_37 ⟨⟨by decide, by decide⟩, rfl, rfl⟩ (m_note ha (show gI (sI h 42 0 0) 42 17 = nI na by rw [gI_sI, if_neg (by decide)]; exact hn)) (Nat.le_of_ble_eq_true rfl) (fun h_37 e_37 => ?_)
  refine wh_aload_n (pc := 40) d_Md_blow_40 rfl rfl ?_
  refine gf_Md_25 (pc := 41) rfl d_Md_blow_41 ?_
  refine wh_bipush (pc := 44) (v := 16) d_Md_blow_44 (by decide) ?_
  refine wh_iload_n (pc := 46) d_Md_blow_46 rfl rfl ?_
  refine wh_iast (pc := 47) d_Md_blow_47 rfl (by first | exact in_nI (by omega) (by omega) | (simp only [a0, a5, a10, a19]; exact in_nI (by omega) (by omega)) | exact vp_in_iff.mpr (by decide)) ?_
  refine wh_iload_n (pc := 48) d_Md_blow_48 rfl rfl ?_
  refine wh_iret (pc := 49) d_Md_blow_49 rfl ?_
  exact ⟨_, rfl, rfl, _, e_37, rfl⟩
theorem x_blow {l : Launch} {D : va_G} {base : Nat} (w : Int32) : CMD l D base M_Lm_blow M_Md_blow [.int w] := by
  intro h hr
  have hw := hr.w
  by_cases hb : w < 0 ∨ 2 < w
  · exact SI.of (c_blowB hb) (SI.of (r_blowB hb) ⟨rfl, hr.fm fm_thr⟩)
  · by_cases he : gI h 2 8 = w
    · exact SI.of (c_blowL hb he) (SI.of (r_blowL hb (hw.2.2.1.trans he)) ⟨rfl, hr.fm fm_thr⟩)
    · obtain ⟨n, m, r0, r1, ⟨na, ⟨ha, ra, rb⟩, rs⟩, r3, r4, r5, r6⟩ := hr
      refine (c_blowY hb he r1 ha ra).cons (fun h1 x q => ?_)
      obtain ⟨rfl, hA, hAr, rfl⟩ := q
      have e1 : gI (sI hA 2 8 w) 42 17 = nI na := by rw [gI_sN (by decide), hAr.2.2.2.2.2.2 42 17 (by omega)]; exact rb
      have e2 : gI (sI hA 2 8 w) 48 16 = gI h 2 8 := by rw [gI_sN (by decide), hAr.2.2.2.2.2.2 48 16 (by omega)]; exact hw.2.2.1
      refine (r_blowY hb (by rw [e2]; exact he) ha e1).cons (fun h2 y q => ?_)
      obtain ⟨rfl, hB, hBr, rfl⟩ := q
      exact ⟨e2, act_one r0 r1 ⟨ha, rs⟩ r3 r4 r5 r6 (by simp) hAr hBr⟩
theorem c_moveB {l : Launch} {D : va_G} {base : Nat} {h : Hp} {w : Int32} (hb : w < 0 ∨ 9 < w) : SD l D base M_Lm_move [.ref 0, .int w] h (some (.int (-2))) h := by
  refine SP.of [some (.ref 0), some (.int w), none] (by decide) rfl (Nat.le_of_ble_eq_true rfl) ?_
  refine wh_iload_n (pc := 0) d_Lm_move_0 rfl rfl ?_
  refine cs_Lm_155_d (pc := 1) rfl d_Lm_move_1 ⟨⟨by decide, by decide⟩, rfl, rfl⟩ (s_isHoney) (Nat.le_of_ble_eq_true rfl) ?_
  refine wh_if_ne (pc := 4) (tgt := 10) d_Lm_move_4 (by decide) (fun c_4 => absurd (rg_no hb) c_4) (fun c_4 => ?_)
  refine wh_bipush (pc := 7) (v := (-2)) d_Lm_move_7 (by decide) ?_
  refine wh_iret (pc := 9) d_Lm_move_9 rfl ?_
  exact ⟨rfl, rfl⟩
theorem c_moveL {l : Launch} {D : va_G} {base : Nat} {h : Hp} {w : Int32} (hb : ¬ (w < 0 ∨ 9 < w)) (he : gI h 2 9 = w) : SD l D base M_Lm_move [.ref 0, .int w] h (some (.int (-3))) h := by
  refine SP.of [some (.ref 0), some (.int w), none] (by decide) rfl (Nat.le_of_ble_eq_true rfl) ?_
  refine wh_iload_n (pc := 0) d_Lm_move_0 rfl rfl ?_
  refine cs_Lm_155_d (pc := 1) rfl d_Lm_move_1 ⟨⟨by decide, by decide⟩, rfl, rfl⟩ (s_isHoney) (Nat.le_of_ble_eq_true rfl) ?_
  refine wh_if_ne (pc := 4) (tgt := 10) d_Lm_move_4 (by decide) (fun c_4 => ?_) (fun c_4 => absurd c_4 (by rw [rg_yes hb]; decide))
  refine wh_aload_n (pc := 10) d_Lm_move_10 rfl rfl ?_
  refine gf_Lm_20 (pc := 11) rfl d_Lm_move_11 ?_
  refine gf_Lm_85 (pc := 14) (Or.inl rfl) rfl d_Lm_move_14 ?_
  refine wh_iload_n (pc := 17) d_Lm_move_17 rfl rfl ?_
  refine wh_icmp_ne (pc := 18) (tgt := 24) d_Lm_move_18 (by decide) (fun c_18 => absurd he c_18) (fun c_18 => ?_)
  refine wh_bipush (pc := 21) (v := (-3)) d_Lm_move_21 (by decide) ?_
  refine wh_iret (pc := 23) d_Lm_move_23 rfl ?_
  exact ⟨rfl, rfl⟩
theorem c_moveY {l : Launch} {D : va_G} {base : Nat} {h : Hp} {w : Int32} (hb : ¬ (w < 0 ∨ 9 < w)) (he : ¬ gI h 2 9 = w) (hR : Rows h) {na : Nat} (ha : na ≤ 14) (hn : gI h 0 6 = nI na) : SI l D base M_Lm_move [.ref 0, .int w] h (fun h1 x => x = gI h 2 9 ∧ ∃ hA, RMc h hA na (grow na).1 (grow na).2 ∧ h1 = sI hA 2 9 w) := by
  refine SP.of [some (.ref 0), some (.int w), none] (by decide) rfl (Nat.le_of_ble_eq_true rfl) ?_
  refine wh_iload_n (pc := 0) d_Lm_move_0 rfl rfl ?_
  refine cs_Lm_155_d (pc := 1) rfl d_Lm_move_1 ⟨⟨by decide, by decide⟩, rfl, rfl⟩ (s_isHoney) (Nat.le_of_ble_eq_true rfl) ?_
  refine wh_if_ne (pc := 4) (tgt := 10) d_Lm_move_4 (by decide) (fun c_4 => ?_) (fun c_4 => absurd c_4 (by rw [rg_yes hb]; decide))
  refine wh_aload_n (pc := 10) d_Lm_move_10 rfl rfl ?_
  refine gf_Lm_20 (pc := 11) rfl d_Lm_move_11 ?_
  refine gf_Lm_85 (pc := 14) (Or.inl rfl) rfl d_Lm_move_14 ?_
  refine wh_iload_n (pc := 17) d_Lm_move_17 rfl rfl ?_
  refine wh_icmp_ne (pc := 18) (tgt := 24) d_Lm_move_18 (by decide) (fun c_18 => ?_) (fun c_18 => absurd c_18 he)
  refine wh_aload_n (pc := 24) d_Lm_move_24 rfl rfl ?_
  refine cv_Lm_152_v (pc := 25) rfl d_Lm_move_25 ⟨⟨by decide, by decide⟩, rfl, rfl⟩ (s_remember hR ha hn) (Nat.le_of_ble_eq_true rfl) (fun h_25 e_25 => ?_)
  refine wh_aload_n (pc := 28) d_Lm_move_28 rfl rfl ?_
  refine gf_Lm_20 (pc := 29) rfl d_Lm_move_29 ?_
  refine gf_Lm_85 (pc := 32) (Or.inl rfl) rfl d_Lm_move_32 ?_
  refine wh_istore_n (pc := 35) (ls2 := [_, _, _]) d_Lm_move_35 rfl (by decide) rfl rfl ?_
  refine wh_aload_n (pc := 36) d_Lm_move_36 rfl rfl ?_
  refine gf_Lm_20 (pc := 37) rfl d_Lm_move_37 ?_
  refine wh_iload_n (pc := 40) d_Lm_move_40 rfl rfl ?_
  refine pf_Lm_85 (pc := 41) (Or.inl rfl) rfl d_Lm_move_41 ?_
  refine wh_iload_n (pc := 44) d_Lm_move_44 rfl rfl ?_
  refine wh_iret (pc := 45) d_Lm_move_45 rfl ?_
  exact ⟨_, rfl, e_25.2.2.2.2.2.2 2 9 (by omega), _, e_25, rfl⟩
theorem r_moveB {l : Launch} {D : va_G} {base : Nat} {h : Hp} {w : Int32} (hb : w < 0 ∨ 9 < w) : SD l D base M_Md_move [.ref 42, .int w] h (some (.int (-2))) (sI h 42 0 0) := by
  refine SP.of [some (.ref 42), some (.int w), none] (by decide) rfl (Nat.le_of_ble_eq_true rfl) ?_
  refine wh_aload_n (pc := 0) d_Md_move_0 rfl rfl ?_
  refine wh_iconst (pc := 1) (v := 0) d_Md_move_1 (by decide) ?_
  refine pf_Md_62 (pc := 2) rfl d_Md_move_2 ?_
  refine wh_iload_n (pc := 5) d_Md_move_5 rfl rfl ?_
  refine wh_i2l (pc := 6) d_Md_move_6 ?_
  refine wh_lconst (pc := 7) (v := 0) d_Md_move_7 (by decide) ?_
  refine wh_ldc2 (pc := 8) d_Md_move_8 kc_Md_164 ?_
  refine cs_Md_69_d (pc := 11) rfl d_Md_move_11 ⟨⟨by decide, by decide⟩, rfl, rfl⟩ (m_in) (Nat.le_of_ble_eq_true rfl) ?_
  refine wh_if_ne (pc := 14) (tgt := 20) d_Md_move_14 (by decide) (fun c_14 => absurd ((inL w 0 9 rfl rfl).mpr hb) c_14) (fun c_14 => ?_)
  refine wh_bipush (pc := 17) (v := (-2)) d_Md_move_17 (by decide) ?_
  refine wh_iret (pc := 19) d_Md_move_19 rfl ?_
  exact ⟨rfl, rfl⟩
theorem r_moveL {l : Launch} {D : va_G} {base : Nat} {h : Hp} {w : Int32} (hb : ¬ (w < 0 ∨ 9 < w)) (he : gI h 48 17 = w) : SD l D base M_Md_move [.ref 42, .int w] h (some (.int (-3))) (sI h 42 0 0) := by
  refine SP.of [some (.ref 42), some (.int w), none] (by decide) rfl (Nat.le_of_ble_eq_true rfl) ?_
  refine wh_aload_n (pc := 0) d_Md_move_0 rfl rfl ?_
  refine wh_iconst (pc := 1) (v := 0) d_Md_move_1 (by decide) ?_
  refine pf_Md_62 (pc := 2) rfl d_Md_move_2 ?_
  refine wh_iload_n (pc := 5) d_Md_move_5 rfl rfl ?_
  refine wh_i2l (pc := 6) d_Md_move_6 ?_
  refine wh_lconst (pc := 7) (v := 0) d_Md_move_7 (by decide) ?_
  refine wh_ldc2 (pc := 8) d_Md_move_8 kc_Md_164 ?_
  refine cs_Md_69_d (pc := 11) rfl d_Md_move_11 ⟨⟨by decide, by decide⟩, rfl, rfl⟩ (m_in) (Nat.le_of_ble_eq_true rfl) ?_
  refine wh_if_ne (pc := 14) (tgt := 20) d_Md_move_14 (by decide) (fun c_14 => ?_) (fun c_14 => absurd c_14 (fun z => hb ((inL w 0 9 rfl rfl).mp z)))
  refine wh_aload_n (pc := 20) d_Md_move_20 rfl rfl ?_
  refine gf_Md_25 (pc := 21) rfl d_Md_move_21 ?_
  refine wh_bipush (pc := 24) (v := 17) d_Md_move_24 (by decide) ?_
  refine wh_iald (pc := 26) d_Md_move_26 rfl (by first | exact in_nI (by omega) (by omega) | (simp only [a0, a5, a10, a19]; exact in_nI (by omega) (by omega)) | exact vp_in_iff.mpr (by decide)) ?_
  refine wh_istore_n (pc := 27) (ls2 := [_, _, _]) d_Md_move_27 rfl (by decide) rfl rfl ?_
  refine wh_iload_n (pc := 28) d_Md_move_28 rfl rfl ?_
  refine wh_iload_n (pc := 29) d_Md_move_29 rfl rfl ?_
  refine wh_icmp_ne (pc := 30) (tgt := 36) d_Md_move_30 (by decide) (fun c_30 => absurd he c_30) (fun c_30 => ?_)
  refine wh_bipush (pc := 33) (v := (-3)) d_Md_move_33 (by decide) ?_
  refine wh_iret (pc := 35) d_Md_move_35 rfl ?_
  exact ⟨rfl, rfl⟩
theorem r_moveY {l : Launch} {D : va_G} {base : Nat} {h : Hp} {w : Int32} (hb : ¬ (w < 0 ∨ 9 < w)) (he : ¬ gI h 48 17 = w) {na : Nat} (ha : na ≤ 14) (hn : gI h 42 17 = nI na) : SI l D base M_Md_move [.ref 42, .int w] h (fun h1 x => x = gI h 48 17 ∧ ∃ hB, RMm (sI h 42 0 0) hB na (grow na).1 (grow na).2 ∧ h1 = sI hB 48 17 w) := by
  refine SP.of [some (.ref 42), some (.int w), none] (by decide) rfl (Nat.le_of_ble_eq_true rfl) ?_
  refine wh_aload_n (pc := 0) d_Md_move_0 rfl rfl ?_
  refine wh_iconst (pc := 1) (v := 0) d_Md_move_1 (by decide) ?_
  refine pf_Md_62 (pc := 2) rfl d_Md_move_2 ?_
  refine wh_iload_n (pc := 5) d_Md_move_5 rfl rfl ?_
  refine wh_i2l (pc := 6) d_Md_move_6 ?_
  refine wh_lconst (pc := 7) (v := 0) d_Md_move_7 (by decide) ?_
  refine wh_ldc2 (pc := 8) d_Md_move_8 kc_Md_164 ?_
  refine cs_Md_69_d (pc := 11) rfl d_Md_move_11 ⟨⟨by decide, by decide⟩, rfl, rfl⟩ (m_in) (Nat.le_of_ble_eq_true rfl) ?_
  refine wh_if_ne (pc := 14) (tgt := 20) d_Md_move_14 (by decide) (fun c_14 => ?_) (fun c_14 => absurd c_14 (fun z => hb ((inL w 0 9 rfl rfl).mp z)))
  refine wh_aload_n (pc := 20) d_Md_move_20 rfl rfl ?_
  refine gf_Md_25 (pc := 21) rfl d_Md_move_21 ?_
  refine wh_bipush (pc := 24) (v := 17) d_Md_move_24 (by decide) ?_
  refine wh_iald (pc := 26) d_Md_move_26 rfl (by first | exact in_nI (by omega) (by omega) | (simp only [a0, a5, a10, a19]; exact in_nI (by omega) (by omega)) | exact vp_in_iff.mpr (by decide)) ?_
  refine wh_istore_n (pc := 27) (ls2 := [_, _, _]) d_Md_move_27 rfl (by decide) rfl rfl ?_
  refine wh_iload_n (pc := 28) d_Md_move_28 rfl rfl ?_
  refine wh_iload_n (pc := 29) d_Md_move_29 rfl rfl ?_
  refine wh_icmp_ne (pc := 30) (tgt := 36) d_Md_move_30 (by decide) (fun c_30 => ?_) (fun c_30 => absurd c_30 he)
  refine wh_aload_n (pc := 36) d_Md_move_36 rfl rfl ?_
  refine cv_Md_166_v (pc := 37) rfl d_Md_move_37 ⟨⟨by decide, by decide⟩, rfl, rfl⟩ (m_note ha (show gI (sI h 42 0 0) 42 17 = nI na by rw [gI_sI, if_neg (by decide)]; exact hn)) (Nat.le_of_ble_eq_true rfl) (fun h_37 e_37 => ?_)
  refine wh_aload_n (pc := 40) d_Md_move_40 rfl rfl ?_
  refine gf_Md_25 (pc := 41) rfl d_Md_move_41 ?_
  refine wh_bipush (pc := 44) (v := 17) d_Md_move_44 (by decide) ?_
  refine wh_iload_n (pc := 46) d_Md_move_46 rfl rfl ?_
  refine wh_iast (pc := 47) d_Md_move_47 rfl (by first | exact in_nI (by omega) (by omega) | (simp only [a0, a5, a10, a19]; exact in_nI (by omega) (by omega)) | exact vp_in_iff.mpr (by decide)) ?_
  refine wh_iload_n (pc := 48) d_Md_move_48 rfl rfl ?_
  refine wh_iret (pc := 49) d_Md_move_49 rfl ?_
  exact ⟨_, rfl, rfl, _, e_37, rfl⟩
theorem x_move {l : Launch} {D : va_G} {base : Nat} (w : Int32) : CMD l D base M_Lm_move M_Md_move [.int w] := by
  intro h hr
  have hw := hr.w
  by_cases hb : w < 0 ∨ 9 < w
  · exact SI.of (c_moveB hb) (SI.of (r_moveB hb) ⟨rfl, hr.fm fm_thr⟩)
  · by_cases he : gI h 2 9 = w
    · exact SI.of (c_moveL hb he) (SI.of (r_moveL hb (hw.2.2.2.1.trans he)) ⟨rfl, hr.fm fm_thr⟩)
    · obtain ⟨n, m, r0, r1, ⟨na, ⟨ha, ra, rb⟩, rs⟩, r3, r4, r5, r6⟩ := hr
      refine (c_moveY hb he r1 ha ra).cons (fun h1 x q => ?_)
      obtain ⟨rfl, hA, hAr, rfl⟩ := q
      have e1 : gI (sI hA 2 9 w) 42 17 = nI na := by rw [gI_sN (by decide), hAr.2.2.2.2.2.2 42 17 (by omega)]; exact rb
      have e2 : gI (sI hA 2 9 w) 48 17 = gI h 2 9 := by rw [gI_sN (by decide), hAr.2.2.2.2.2.2 48 17 (by omega)]; exact hw.2.2.2.1
      refine (r_moveY hb (by rw [e2]; exact he) ha e1).cons (fun h2 y q => ?_)
      obtain ⟨rfl, hB, hBr, rfl⟩ := q
      exact ⟨e2, act_one r0 r1 ⟨ha, rs⟩ r3 r4 r5 r6 (by simp) hAr hBr⟩

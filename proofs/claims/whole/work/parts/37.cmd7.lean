theorem gI_sM {h : Hp} {a k c j : Nat} {v : Int32} (hc : ¬ (c = a ∧ j = k)) : gI (sI h a k v) c j = gI h c j := by rw [gI_sI, if_neg hc]
theorem c_writeB {l : Launch} {D : va_G} {base : Nat} {h : Hp} {w : Int32} (hb : w < 0 ∨ 255 < w) : SD l D base M_Lm_write [.ref 0, .int w] h (some (.int (-2))) h := by
  refine SP.of [some (.ref 0), some (.int w)] (by decide) rfl (Nat.le_of_ble_eq_true rfl) ?_
  by_cases h1 : w < 0
  · refine wh_iload_n (pc := 0) d_Lm_write_0 rfl rfl ?_
    refine wh_if_lt (pc := 1) (tgt := 11) d_Lm_write_1 (by decide) (fun c_1 => ?_) (fun c_1 => absurd h1 c_1)
    refine wh_bipush (pc := 11) (v := (-2)) d_Lm_write_11 (by decide) ?_
    refine wh_iret (pc := 13) d_Lm_write_13 rfl ?_
    exact ⟨rfl, rfl⟩
  · refine wh_iload_n (pc := 0) d_Lm_write_0 rfl rfl ?_
    refine wh_if_lt (pc := 1) (tgt := 11) d_Lm_write_1 (by decide) (fun c_1 => absurd c_1 h1) (fun c_1 => ?_)
    refine wh_iload_n (pc := 4) d_Lm_write_4 rfl rfl ?_
    refine wh_sipush (pc := 5) (v := 255) d_Lm_write_5 (by decide) ?_
    refine wh_icmp_le (pc := 8) (tgt := 14) d_Lm_write_8 (by decide) (fun c_8 => absurd c_8 (show ¬ w ≤ 255 by have := hb.resolve_left h1; rw [i_le]; rw [i_lt] at this; omega)) (fun c_8 => ?_)
    refine wh_bipush (pc := 11) (v := (-2)) d_Lm_write_11 (by decide) ?_
    refine wh_iret (pc := 13) d_Lm_write_13 rfl ?_
    exact ⟨rfl, rfl⟩
theorem c_writeF {l : Launch} {D : va_G} {base : Nat} {h : Hp} {w : Int32} (hb : ¬ (w < 0 ∨ 255 < w)) (hn : gI h 0 1 = 56) : SD l D base M_Lm_write [.ref 0, .int w] h (some (.int (-4))) h := by
  refine SP.of [some (.ref 0), some (.int w)] (by decide) rfl (Nat.le_of_ble_eq_true rfl) ?_
  refine wh_iload_n (pc := 0) d_Lm_write_0 rfl rfl ?_
  refine wh_if_lt (pc := 1) (tgt := 11) d_Lm_write_1 (by decide) (fun c_1 => absurd c_1 (fun z => hb (Or.inl z))) (fun c_1 => ?_)
  refine wh_iload_n (pc := 4) d_Lm_write_4 rfl rfl ?_
  refine wh_sipush (pc := 5) (v := 255) d_Lm_write_5 (by decide) ?_
  refine wh_icmp_le (pc := 8) (tgt := 14) d_Lm_write_8 (by decide) (fun c_8 => ?_) (fun c_8 => absurd (show w ≤ 255 by rw [i_le]; have : ¬ 255 < w := fun z => hb (Or.inr z); rw [i_lt] at this; omega) c_8)
  refine wh_aload_n (pc := 14) d_Lm_write_14 rfl rfl ?_
  refine gf_Lm_13 (pc := 15) rfl d_Lm_write_15 ?_
  refine wh_if_lt (pc := 18) (tgt := 30) d_Lm_write_18 (by decide) (fun c_18 => absurd c_18 (by rw [hn]; decide)) (fun c_18 => ?_)
  refine wh_aload_n (pc := 21) d_Lm_write_21 rfl rfl ?_
  refine gf_Lm_13 (pc := 22) rfl d_Lm_write_22 ?_
  refine wh_bipush (pc := 25) (v := 56) d_Lm_write_25 (by decide) ?_
  refine wh_icmp_lt (pc := 27) (tgt := 33) d_Lm_write_27 (by decide) (fun c_27 => absurd c_27 (by rw [hn]; decide)) (fun c_27 => ?_)
  refine wh_bipush (pc := 30) (v := (-4)) d_Lm_write_30 (by decide) ?_
  refine wh_iret (pc := 32) d_Lm_write_32 rfl ?_
  exact ⟨rfl, rfl⟩
theorem c_writeY {l : Launch} {D : va_G} {base : Nat} {h : Hp} {w : Int32} (hb : ¬ (w < 0 ∨ 255 < w)) {n : Nat} (hn : gI h 0 1 = nI n) (h5 : n < 56) : SD l D base M_Lm_write [.ref 0, .int w] h (some (.int (nI (n + 1)))) (sI (sI h 1 n w) 0 1 (nI (n + 1))) := by
  refine SP.of [some (.ref 0), some (.int w)] (by decide) rfl (Nat.le_of_ble_eq_true rfl) ?_
  refine wh_iload_n (pc := 0) d_Lm_write_0 rfl rfl ?_
  refine wh_if_lt (pc := 1) (tgt := 11) d_Lm_write_1 (by decide) (fun c_1 => absurd c_1 (fun z => hb (Or.inl z))) (fun c_1 => ?_)
  refine wh_iload_n (pc := 4) d_Lm_write_4 rfl rfl ?_
  refine wh_sipush (pc := 5) (v := 255) d_Lm_write_5 (by decide) ?_
  refine wh_icmp_le (pc := 8) (tgt := 14) d_Lm_write_8 (by decide) (fun c_8 => ?_) (fun c_8 => absurd (show w ≤ 255 by rw [i_le]; have : ¬ 255 < w := fun z => hb (Or.inr z); rw [i_lt] at this; omega) c_8)
  refine wh_aload_n (pc := 14) d_Lm_write_14 rfl rfl ?_
  refine gf_Lm_13 (pc := 15) rfl d_Lm_write_15 ?_
  refine wh_if_lt (pc := 18) (tgt := 30) d_Lm_write_18 (by decide) (fun c_18 => absurd c_18 (by rw [hn]; exact nI_pos (by omega))) (fun c_18 => ?_)
  refine wh_aload_n (pc := 21) d_Lm_write_21 rfl rfl ?_
  refine gf_Lm_13 (pc := 22) rfl d_Lm_write_22 ?_
  refine wh_bipush (pc := 25) (v := 56) d_Lm_write_25 (by decide) ?_
  refine wh_icmp_lt (pc := 27) (tgt := 33) d_Lm_write_27 (by decide) (fun c_27 => ?_) (fun c_27 => absurd (by rw [hn]; exact nI_lt h5 (by decide)) c_27)
  refine wh_aload_n (pc := 33) d_Lm_write_33 rfl rfl ?_
  refine gf_Lm_9 (pc := 34) rfl d_Lm_write_34 ?_
  refine wh_aload_n (pc := 37) d_Lm_write_37 rfl rfl ?_
  refine gf_Lm_13 (pc := 38) rfl d_Lm_write_38 ?_
  refine wh_iload_n (pc := 41) d_Lm_write_41 rfl rfl ?_
  refine wh_iast (pc := 42) d_Lm_write_42 rfl (by rw [hn]; exact in_nI h5 (by omega)) ?_
  refine wh_aload_n (pc := 43) d_Lm_write_43 rfl rfl ?_
  refine wh_dup (pc := 44) d_Lm_write_44 rfl ?_
  refine gf_Lm_13 (pc := 45) rfl d_Lm_write_45 ?_
  refine wh_iconst (pc := 48) (v := 1) d_Lm_write_48 (by decide) ?_
  refine wh_iadd (pc := 49) d_Lm_write_49 ?_
  refine pf_Lm_13 (pc := 50) rfl d_Lm_write_50 ?_
  refine wh_aload_n (pc := 53) d_Lm_write_53 rfl rfl ?_
  refine gf_Lm_13 (pc := 54) rfl d_Lm_write_54 ?_
  refine wh_iret (pc := 57) d_Lm_write_57 rfl ?_
  simp only [gI_sS]
  rw [gI_sN (by decide), hn, nI_1, cl_nI (by omega)]
  exact ⟨rfl, rfl⟩
theorem r_writeB {l : Launch} {D : va_G} {base : Nat} {h : Hp} {w : Int32} (hb : w < 0 ∨ 255 < w) : SD l D base M_Md_write [.ref 42, .int w] h (some (.int (-2))) (sI h 42 0 0) := by
  refine SP.of [some (.ref 42), some (.int w)] (by decide) rfl (Nat.le_of_ble_eq_true rfl) ?_
  refine wh_aload_n (pc := 0) d_Md_write_0 rfl rfl ?_
  refine wh_iconst (pc := 1) (v := 0) d_Md_write_1 (by decide) ?_
  refine pf_Md_62 (pc := 2) rfl d_Md_write_2 ?_
  refine wh_iload_n (pc := 5) d_Md_write_5 rfl rfl ?_
  refine wh_i2l (pc := 6) d_Md_write_6 ?_
  refine wh_lconst (pc := 7) (v := 0) d_Md_write_7 (by decide) ?_
  refine wh_ldc2 (pc := 8) d_Md_write_8 kc_Md_76 ?_
  refine cs_Md_69_d (pc := 11) rfl d_Md_write_11 ⟨⟨by decide, by decide⟩, rfl, rfl⟩ (m_in) (Nat.le_of_ble_eq_true rfl) ?_
  refine wh_if_ne (pc := 14) (tgt := 20) d_Md_write_14 (by decide) (fun c_14 => absurd ((inL w 0 255 rfl rfl).mpr hb) c_14) (fun c_14 => ?_)
  refine wh_bipush (pc := 17) (v := (-2)) d_Md_write_17 (by decide) ?_
  refine wh_iret (pc := 19) d_Md_write_19 rfl ?_
  exact ⟨rfl, rfl⟩
theorem r_writeF {l : Launch} {D : va_G} {base : Nat} {h : Hp} {w : Int32} (hb : ¬ (w < 0 ∨ 255 < w)) (hn : gI h 42 2 = 56) : SD l D base M_Md_write [.ref 42, .int w] h (some (.int (-4))) (sI h 42 0 0) := by
  refine SP.of [some (.ref 42), some (.int w)] (by decide) rfl (Nat.le_of_ble_eq_true rfl) ?_
  refine wh_aload_n (pc := 0) d_Md_write_0 rfl rfl ?_
  refine wh_iconst (pc := 1) (v := 0) d_Md_write_1 (by decide) ?_
  refine pf_Md_62 (pc := 2) rfl d_Md_write_2 ?_
  refine wh_iload_n (pc := 5) d_Md_write_5 rfl rfl ?_
  refine wh_i2l (pc := 6) d_Md_write_6 ?_
  refine wh_lconst (pc := 7) (v := 0) d_Md_write_7 (by decide) ?_
  refine wh_ldc2 (pc := 8) d_Md_write_8 kc_Md_76 ?_
  refine cs_Md_69_d (pc := 11) rfl d_Md_write_11 ⟨⟨by decide, by decide⟩, rfl, rfl⟩ (m_in) (Nat.le_of_ble_eq_true rfl) ?_
  refine wh_if_ne (pc := 14) (tgt := 20) d_Md_write_14 (by decide) (fun c_14 => ?_) (fun c_14 => absurd c_14 (fun z => hb ((inL w 0 255 rfl rfl).mp z)))
  refine wh_aload_n (pc := 20) d_Md_write_20 rfl rfl ?_
  refine gf_Md_78 (pc := 21) rfl d_Md_write_21 ?_
  refine wh_bipush (pc := 24) (v := 56) d_Md_write_24 (by decide) ?_
  refine wh_icmp_ne (pc := 26) (tgt := 32) d_Md_write_26 (by decide) (fun c_26 => absurd (by rw [gI_sI, if_neg (by decide)]; exact hn) c_26) (fun c_26 => ?_)
  refine wh_bipush (pc := 29) (v := (-4)) d_Md_write_29 (by decide) ?_
  refine wh_iret (pc := 31) d_Md_write_31 rfl ?_
  exact ⟨rfl, rfl⟩
theorem r_writeY {l : Launch} {D : va_G} {base : Nat} {h : Hp} {w : Int32} (hb : ¬ (w < 0 ∨ 255 < w)) {n : Nat} (hn : gI h 42 2 = nI n) (h5 : n < 56) : SD l D base M_Md_write [.ref 42, .int w] h (some (.int (nI (n + 1)))) (sI (sI (sI h 42 0 0) 43 n w) 42 2 (nI (n + 1))) := by
  refine SP.of [some (.ref 42), some (.int w)] (by decide) rfl (Nat.le_of_ble_eq_true rfl) ?_
  have e0 : gI (sI h 42 0 0) 42 2 = nI n := by rw [gI_sI, if_neg (by decide)]; exact hn
  refine wh_aload_n (pc := 0) d_Md_write_0 rfl rfl ?_
  refine wh_iconst (pc := 1) (v := 0) d_Md_write_1 (by decide) ?_
  refine pf_Md_62 (pc := 2) rfl d_Md_write_2 ?_
  refine wh_iload_n (pc := 5) d_Md_write_5 rfl rfl ?_
  refine wh_i2l (pc := 6) d_Md_write_6 ?_
  refine wh_lconst (pc := 7) (v := 0) d_Md_write_7 (by decide) ?_
  refine wh_ldc2 (pc := 8) d_Md_write_8 kc_Md_76 ?_
  refine cs_Md_69_d (pc := 11) rfl d_Md_write_11 ⟨⟨by decide, by decide⟩, rfl, rfl⟩ (m_in) (Nat.le_of_ble_eq_true rfl) ?_
  refine wh_if_ne (pc := 14) (tgt := 20) d_Md_write_14 (by decide) (fun c_14 => ?_) (fun c_14 => absurd c_14 (fun z => hb ((inL w 0 255 rfl rfl).mp z)))
  refine wh_aload_n (pc := 20) d_Md_write_20 rfl rfl ?_
  refine gf_Md_78 (pc := 21) rfl d_Md_write_21 ?_
  refine wh_bipush (pc := 24) (v := 56) d_Md_write_24 (by decide) ?_
  refine wh_icmp_ne (pc := 26) (tgt := 32) d_Md_write_26 (by decide) (fun c_26 => ?_) (fun c_26 => absurd c_26 (by rw [e0]; exact fun z => absurd ((nI_eq (by omega) (by decide)).mp (show nI n = nI 56 from z)) (by omega)))
  refine wh_aload_n (pc := 32) d_Md_write_32 rfl rfl ?_
  refine gf_Md_7 (pc := 33) rfl d_Md_write_33 ?_
  refine wh_aload_n (pc := 36) d_Md_write_36 rfl rfl ?_
  refine gf_Md_78 (pc := 37) rfl d_Md_write_37 ?_
  refine wh_iload_n (pc := 40) d_Md_write_40 rfl rfl ?_
  refine wh_iast (pc := 41) d_Md_write_41 rfl (by rw [e0]; exact in_nI h5 (by omega)) ?_
  refine wh_aload_n (pc := 42) d_Md_write_42 rfl rfl ?_
  refine wh_dup (pc := 43) d_Md_write_43 rfl ?_
  refine gf_Md_78 (pc := 44) rfl d_Md_write_44 ?_
  refine wh_iconst (pc := 47) (v := 1) d_Md_write_47 (by decide) ?_
  refine wh_iadd (pc := 48) d_Md_write_48 ?_
  refine pf_Md_78 (pc := 49) rfl d_Md_write_49 ?_
  refine wh_aload_n (pc := 52) d_Md_write_52 rfl rfl ?_
  refine gf_Md_78 (pc := 53) rfl d_Md_write_53 ?_
  refine wh_iret (pc := 56) d_Md_write_56 rfl ?_
  simp (disch := omega) only [gI_sS, gI_sM, hn, nI_1, cl_nI]
  first | exact ⟨rfl, rfl⟩ | exact ⟨rfl, trivial⟩ | exact ⟨trivial, trivial⟩ | exact ⟨trivial, rfl⟩
theorem x_write {l : Launch} {D : va_G} {base : Nat} (w : Int32) : CMD l D base M_Lm_write M_Md_write [.int w] := by
  intro h hr
  by_cases hb : w < 0 ∨ 255 < w
  · exact SI.of (c_writeB hb) (SI.of (r_writeB hb) ⟨rfl, hr.fm fm_thr⟩)
  · have hr0 := hr
    obtain ⟨n, m, r0, r1, r2, r3, r4, ⟨len, ⟨l1, l2, l3⟩, l4⟩, r6⟩ := hr
    by_cases h56 : len = 56
    · subst h56
      exact SI.of (c_writeF hb l2) (SI.of (r_writeF hb l3) ⟨rfl, hr0.fm fm_thr⟩)
    · refine SI.of (c_writeY hb l2 (by omega)) (SI.of (r_writeY (n := len) hb (by rw [gI_sN (by decide), gI_sN (by decide)]; exact l3) (by omega)) ⟨rfl, ?_⟩)
      generalize hh : sI (sI (sI (sI (sI h 1 len w) 0 1 (nI (len + 1))) 42 0 0) 43 len w) 42 2 (nI (len + 1)) = h2
      have o2 : ∀ c j, ¬ (c = 1 ∧ j = len) → ¬ (c = 0 ∧ j = 1) → ¬ (c = 42 ∧ j = 0) → ¬ (c = 43 ∧ j = len) → ¬ (c = 42 ∧ j = 2) → gI h2 c j = gI h c j := fun c j z1 z2 z3 z4 z5 => by
        rw [← hh, gI_sI, if_neg z5, gI_sI, if_neg z4, gI_sI, if_neg z3, gI_sI, if_neg z2, gI_sI, if_neg z1]
      have e2 : h2.2 = h.2 := by rw [← hh]; rfl
      have hn := r0.1.1
      have hm := r0.2.1.1
      refine ⟨n, m, r0.ag (fun c j z => by unfold T_st at z; exact o2 c j (by omega) (by omega) (by omega) (by omega) (by omega)), r1.same e2, r2.ag (fun c j z => by unfold T_ac at z; exact o2 c j (by omega) (by omega) (by omega) (by omega) (by omega)) (fun k => by unfold gR; rw [e2]) r1 hn hm, r3.ag (fun c j z => by unfold T_sl at z; exact o2 c j (by omega) (by omega) (by omega) (by omega) (by omega)) hn hm, r4.ag (fun c j z => by unfold T_ct at z; exact o2 c j (by omega) (by omega) (by omega) (by omega) (by omega)), ⟨len + 1, ⟨by omega, ?_, ?_⟩, fun i hi => ?_⟩, by unfold gL; rw [e2]; exact r6⟩
      · rw [← hh, gI_sN (by decide), gI_sN (by decide), gI_sN (by decide), gI_sS]
      · rw [← hh, gI_sS]
      · by_cases e : i = len
        · subst e
          rw [← hh, gI_sN (by decide), gI_sN (by decide), gI_sN (by decide), gI_sN (by decide), gI_sS, gI_sN (by decide), gI_sS]
        · rw [o2 1 i (by omega) (by omega) (by omega) (by omega) (by omega), o2 43 i (by omega) (by omega) (by omega) (by omega) (by omega)]; exact l4 i (by omega)
theorem c_wipe {l : Launch} {D : va_G} {base : Nat} {h : Hp} : SD l D base M_Lm_wipe [.ref 0] h (some (.int (gI h 0 1))) (sI h 0 1 0) := by
  refine SP.of [some (.ref 0), none] (by decide) rfl (Nat.le_of_ble_eq_true rfl) ?_
  refine wh_aload_n (pc := 0) d_Lm_wipe_0 rfl rfl ?_
  refine gf_Lm_13 (pc := 1) rfl d_Lm_wipe_1 ?_
  refine wh_istore_n (pc := 4) (ls2 := [_, _]) d_Lm_wipe_4 rfl (by decide) rfl rfl ?_
  refine wh_aload_n (pc := 5) d_Lm_wipe_5 rfl rfl ?_
  refine wh_iconst (pc := 6) (v := 0) d_Lm_wipe_6 (by decide) ?_
  refine pf_Lm_13 (pc := 7) rfl d_Lm_wipe_7 ?_
  refine wh_iload_n (pc := 10) d_Lm_wipe_10 rfl rfl ?_
  refine wh_iret (pc := 11) d_Lm_wipe_11 rfl ?_
  exact ⟨rfl, rfl⟩
theorem r_wipe {l : Launch} {D : va_G} {base : Nat} {h : Hp} : SD l D base M_Md_wipe [.ref 42] h (some (.int (gI h 42 2))) (sI (sI h 42 0 0) 42 2 0) := by
  refine SP.of [some (.ref 42), none] (by decide) rfl (Nat.le_of_ble_eq_true rfl) ?_
  refine wh_aload_n (pc := 0) d_Md_wipe_0 rfl rfl ?_
  refine wh_iconst (pc := 1) (v := 0) d_Md_wipe_1 (by decide) ?_
  refine pf_Md_62 (pc := 2) rfl d_Md_wipe_2 ?_
  refine wh_aload_n (pc := 5) d_Md_wipe_5 rfl rfl ?_
  refine gf_Md_78 (pc := 6) rfl d_Md_wipe_6 ?_
  refine wh_istore_n (pc := 9) (ls2 := [_, _]) d_Md_wipe_9 rfl (by decide) rfl rfl ?_
  refine wh_aload_n (pc := 10) d_Md_wipe_10 rfl rfl ?_
  refine wh_iconst (pc := 11) (v := 0) d_Md_wipe_11 (by decide) ?_
  refine pf_Md_78 (pc := 12) rfl d_Md_wipe_12 ?_
  refine wh_iload_n (pc := 15) d_Md_wipe_15 rfl rfl ?_
  refine wh_iret (pc := 16) d_Md_wipe_16 rfl ?_
  exact ⟨rfl, rfl⟩
theorem x_wipe {l : Launch} {D : va_G} {base : Nat} : CMD l D base M_Lm_wipe M_Md_wipe [] := by
  intro h hr
  have hw := hr.w
  obtain ⟨n, m, r0, r1, r2, r3, r4, r5, r6⟩ := hr
  refine SI.of c_wipe (SI.of r_wipe ⟨by rw [gI_sN (by decide)]; exact hw.2.2.2.2.2.2.2, ?_⟩)
  generalize hh : sI (sI (sI h 0 1 0) 42 0 0) 42 2 0 = h2
  have o2 : ∀ c j, ¬ (c = 0 ∧ j = 1) → ¬ (c = 42 ∧ j = 0) → ¬ (c = 42 ∧ j = 2) → gI h2 c j = gI h c j := fun c j z1 z2 z3 => by
    rw [← hh, gI_sI, if_neg z3, gI_sI, if_neg z2, gI_sI, if_neg z1]
  have e2 : h2.2 = h.2 := by rw [← hh]; rfl
  have hn := r0.1.1
  have hm := r0.2.1.1
  exact ⟨n, m, r0.ag (fun c j z => by unfold T_st at z; exact o2 c j (by omega) (by omega) (by omega)), r1.same e2, r2.ag (fun c j z => by unfold T_ac at z; exact o2 c j (by omega) (by omega) (by omega)) (fun k => by unfold gR; rw [e2]) r1 hn hm, r3.ag (fun c j z => by unfold T_sl at z; exact o2 c j (by omega) (by omega) (by omega)) hn hm, r4.ag (fun c j z => by unfold T_ct at z; exact o2 c j (by omega) (by omega) (by omega)), ⟨0, ⟨by omega, by rw [← hh, gI_sN (by decide), gI_sN (by decide), gI_sS]; rfl, by rw [← hh, gI_sS]; rfl⟩, fun i hi => absurd hi (by omega)⟩, by unfold gL; rw [e2]; exact r6⟩
theorem c_forget {l : Launch} {D : va_G} {base : Nat} {h : Hp} : SD l D base M_Lm_forget [.ref 0] h (some (.int (gI h 0 12))) (sI h 0 12 0) := by
  refine SP.of [some (.ref 0), none] (by decide) rfl (Nat.le_of_ble_eq_true rfl) ?_
  refine wh_aload_n (pc := 0) d_Lm_forget_0 rfl rfl ?_
  refine gf_Lm_58 (pc := 1) rfl d_Lm_forget_1 ?_
  refine wh_istore_n (pc := 4) (ls2 := [_, _]) d_Lm_forget_4 rfl (by decide) rfl rfl ?_
  refine wh_aload_n (pc := 5) d_Lm_forget_5 rfl rfl ?_
  refine wh_iconst (pc := 6) (v := 0) d_Lm_forget_6 (by decide) ?_
  refine pf_Lm_58 (pc := 7) rfl d_Lm_forget_7 ?_
  refine wh_iload_n (pc := 10) d_Lm_forget_10 rfl rfl ?_
  refine wh_iret (pc := 11) d_Lm_forget_11 rfl ?_
  exact ⟨rfl, rfl⟩
theorem r_forget {l : Launch} {D : va_G} {base : Nat} {h : Hp} : SD l D base M_Md_forget [.ref 42] h (some (.int (gI h 42 20))) (sI (sI h 42 0 0) 42 20 0) := by
  refine SP.of [some (.ref 42), none] (by decide) rfl (Nat.le_of_ble_eq_true rfl) ?_
  refine wh_aload_n (pc := 0) d_Md_forget_0 rfl rfl ?_
  refine wh_iconst (pc := 1) (v := 0) d_Md_forget_1 (by decide) ?_
  refine pf_Md_62 (pc := 2) rfl d_Md_forget_2 ?_
  refine wh_aload_n (pc := 5) d_Md_forget_5 rfl rfl ?_
  refine gf_Md_154 (pc := 6) rfl d_Md_forget_6 ?_
  refine wh_istore_n (pc := 9) (ls2 := [_, _]) d_Md_forget_9 rfl (by decide) rfl rfl ?_
  refine wh_aload_n (pc := 10) d_Md_forget_10 rfl rfl ?_
  refine wh_iconst (pc := 11) (v := 0) d_Md_forget_11 (by decide) ?_
  refine pf_Md_154 (pc := 12) rfl d_Md_forget_12 ?_
  refine wh_iload_n (pc := 15) d_Md_forget_15 rfl rfl ?_
  refine wh_iret (pc := 16) d_Md_forget_16 rfl ?_
  exact ⟨rfl, rfl⟩
theorem x_forget {l : Launch} {D : va_G} {base : Nat} : CMD l D base M_Lm_forget M_Md_forget [] := by
  intro h hr
  have hw := hr.w
  obtain ⟨n, m, r0, r1, r2, r3, r4, r5, r6⟩ := hr
  refine SI.of c_forget (SI.of r_forget ⟨by rw [gI_sN (by decide)]; exact hw.2.2.2.2.2.2.1, ?_⟩)
  generalize hh : sI (sI (sI h 0 12 0) 42 0 0) 42 20 0 = h2
  have o2 : ∀ c j, ¬ (c = 0 ∧ j = 12) → ¬ (c = 42 ∧ j = 0) → ¬ (c = 42 ∧ j = 20) → gI h2 c j = gI h c j := fun c j z1 z2 z3 => by
    rw [← hh, gI_sI, if_neg z3, gI_sI, if_neg z2, gI_sI, if_neg z1]
  have e2 : h2.2 = h.2 := by rw [← hh]; rfl
  have hn := r0.1.1
  have hm := r0.2.1.1
  exact ⟨n, m, r0.ag (fun c j z => by unfold T_st at z; exact o2 c j (by omega) (by omega) (by omega)), r1.same e2, r2.ag (fun c j z => by unfold T_ac at z; exact o2 c j (by omega) (by omega) (by omega)) (fun k => by unfold gR; rw [e2]) r1 hn hm, r3.ag (fun c j z => by unfold T_sl at z; exact o2 c j (by omega) (by omega) (by omega)) hn hm, ⟨0, ⟨by omega, by rw [← hh, gI_sN (by decide), gI_sN (by decide), gI_sS]; rfl, by rw [← hh, gI_sS]; rfl⟩, fun i hi => absurd hi (by omega)⟩, r5.ag (fun c j z => by unfold T_tx at z; exact o2 c j (by omega) (by omega) (by omega)), by unfold gL; rw [e2]; exact r6⟩
theorem c_seed {l : Launch} {D : va_G} {base : Nat} {h : Hp} {v : Int64} : SD l D base M_Lm_seed [.ref 0, .long v] h (some (.long (gL h 0 14))) (sL h 0 14 v) := by
  refine SP.of [some (.ref 0), some (.long v), none, none, none] (by decide) rfl (Nat.le_of_ble_eq_true rfl) ?_
  refine wh_aload_n (pc := 0) d_Lm_seed_0 rfl rfl ?_
  refine gf_Lm_64 (pc := 1) rfl d_Lm_seed_1 ?_
  refine wh_lstore_n (pc := 4) (ls2 := [_, _, _, _, _]) d_Lm_seed_4 rfl (by decide) rfl rfl ?_
  refine wh_aload_n (pc := 5) d_Lm_seed_5 rfl rfl ?_
  refine wh_lload_n (pc := 6) d_Lm_seed_6 rfl rfl ?_
  refine pf_Lm_64 (pc := 7) rfl d_Lm_seed_7 ?_
  refine wh_lload_n (pc := 10) d_Lm_seed_10 rfl rfl ?_
  refine wh_lret (pc := 11) d_Lm_seed_11 rfl ?_
  exact ⟨rfl, rfl⟩
theorem r_seed {l : Launch} {D : va_G} {base : Nat} {h : Hp} {v : Int64} : SD l D base M_Md_seed [.ref 42, .long v] h (some (.long (gL h 42 24))) (sL (sI h 42 0 0) 42 24 v) := by
  refine SP.of [some (.ref 42), some (.long v), none, none, none] (by decide) rfl (Nat.le_of_ble_eq_true rfl) ?_
  refine wh_aload_n (pc := 0) d_Md_seed_0 rfl rfl ?_
  refine wh_iconst (pc := 1) (v := 0) d_Md_seed_1 (by decide) ?_
  refine pf_Md_62 (pc := 2) rfl d_Md_seed_2 ?_
  refine wh_aload_n (pc := 5) d_Md_seed_5 rfl rfl ?_
  refine gf_Md_243 (pc := 6) rfl d_Md_seed_6 ?_
  refine wh_lstore_n (pc := 9) (ls2 := [_, _, _, _, _]) d_Md_seed_9 rfl (by decide) rfl rfl ?_
  refine wh_aload_n (pc := 10) d_Md_seed_10 rfl rfl ?_
  refine wh_lload_n (pc := 11) d_Md_seed_11 rfl rfl ?_
  refine pf_Md_243 (pc := 12) rfl d_Md_seed_12 ?_
  refine wh_lload_n (pc := 15) d_Md_seed_15 rfl rfl ?_
  refine wh_lret (pc := 16) d_Md_seed_16 rfl ?_
  exact ⟨rfl, rfl⟩
theorem rel_seed {h : Hp} {v : Int64} (hr : Rel h) : gL (sL h 0 14 v) 42 24 = gL h 0 14 ∧ Rel (sL (sI (sL h 0 14 v) 42 0 0) 42 24 v) := by
  have hr0 := hr.fm fm_thr
  obtain ⟨n, m, r0, r1, r2, r3, r4, r5, r6⟩ := hr
  obtain ⟨n', m', s0, s1, s2, s3, s4, s5, s6⟩ := hr0
  refine ⟨?_, n', m', s0, s1, s2, s3, s4, s5, ?_⟩
  · rw [gL_sL, if_neg (by decide)]; exact r6.symm
  · rw [gL_sL, gL_sL, if_neg (by decide), if_pos ⟨rfl, rfl⟩]
    show gL (sL h 0 14 v) 0 14 = v
    rw [gL_sL, if_pos ⟨rfl, rfl⟩]
theorem c_countU {l : Launch} {D : va_G} {base : Nat} {h : Hp} (hF : WFS (laneS h 2)) {w v t : Int32} (hz : bI w (nW (laneS h 2)) = 0) : SD l D base M_Lm_count [.ref 0, .int w, .int v, .int t] h (some (.int (-1))) h := by
  refine SP.of [some (.ref 0), some (.int w), some (.int v), some (.int t)] (by decide) rfl (Nat.le_of_ble_eq_true rfl) ?_
  have hw5 := hF.1.1
  refine wh_aload_n (pc := 0) d_Lm_count_0 rfl rfl ?_
  refine gf_Lm_20 (pc := 1) rfl d_Lm_count_1 ?_
  refine wh_iload_n (pc := 4) d_Lm_count_4 rfl rfl ?_
  refine cv_Lm_101_d (pc := 5) (Or.inl rfl) rfl d_Lm_count_5 ⟨⟨by decide, by decide⟩, rfl, rfl⟩ (s_hasWindow (Or.inl rfl) (wf_w hF) hw5) (Nat.le_of_ble_eq_true rfl) ?_
  refine wh_if_ne (pc := 8) (tgt := 13) d_Lm_count_8 (by decide) (fun c_8 => absurd hz c_8) (fun c_8 => ?_)
  refine wh_iconst (pc := 11) (v := (-1)) d_Lm_count_11 (by decide) ?_
  refine wh_iret (pc := 12) d_Lm_count_12 rfl ?_
  exact ⟨rfl, rfl⟩
theorem c_countB {l : Launch} {D : va_G} {base : Nat} {h : Hp} (hF : WFS (laneS h 2)) {w v t : Int32} (hz : ¬ bI w (nW (laneS h 2)) = 0) (hb : (v < 0 ∨ 2 < v) ∨ (t < 0 ∨ 99 < t)) : SD l D base M_Lm_count [.ref 0, .int w, .int v, .int t] h (some (.int (-2))) h := by
  refine SP.of [some (.ref 0), some (.int w), some (.int v), some (.int t)] (by decide) rfl (Nat.le_of_ble_eq_true rfl) ?_
  have hw5 := hF.1.1
  by_cases h1 : v < 0 ∨ 2 < v
  · refine wh_aload_n (pc := 0) d_Lm_count_0 rfl rfl ?_
    refine gf_Lm_20 (pc := 1) rfl d_Lm_count_1 ?_
    refine wh_iload_n (pc := 4) d_Lm_count_4 rfl rfl ?_
    refine cv_Lm_101_d (pc := 5) (Or.inl rfl) rfl d_Lm_count_5 ⟨⟨by decide, by decide⟩, rfl, rfl⟩ (s_hasWindow (Or.inl rfl) (wf_w hF) hw5) (Nat.le_of_ble_eq_true rfl) ?_
    refine wh_if_ne (pc := 8) (tgt := 13) d_Lm_count_8 (by decide) (fun c_8 => ?_) (fun c_8 => absurd c_8 hz)
    refine wh_iload_n (pc := 13) d_Lm_count_13 rfl rfl ?_
    refine cs_Lm_149_d (pc := 14) rfl d_Lm_count_14 ⟨⟨by decide, by decide⟩, rfl, rfl⟩ (s_isWind) (Nat.le_of_ble_eq_true rfl) ?_
    refine wh_if_eq (pc := 17) (tgt := 27) d_Lm_count_17 (by decide) (fun c_17 => ?_) (fun c_17 => absurd (rg_no h1) c_17)
    refine wh_bipush (pc := 27) (v := (-2)) d_Lm_count_27 (by decide) ?_
    refine wh_iret (pc := 29) d_Lm_count_29 rfl ?_
    exact ⟨rfl, rfl⟩
  · refine wh_aload_n (pc := 0) d_Lm_count_0 rfl rfl ?_
    refine gf_Lm_20 (pc := 1) rfl d_Lm_count_1 ?_
    refine wh_iload_n (pc := 4) d_Lm_count_4 rfl rfl ?_
    refine cv_Lm_101_d (pc := 5) (Or.inl rfl) rfl d_Lm_count_5 ⟨⟨by decide, by decide⟩, rfl, rfl⟩ (s_hasWindow (Or.inl rfl) (wf_w hF) hw5) (Nat.le_of_ble_eq_true rfl) ?_
    refine wh_if_ne (pc := 8) (tgt := 13) d_Lm_count_8 (by decide) (fun c_8 => ?_) (fun c_8 => absurd c_8 hz)
    refine wh_iload_n (pc := 13) d_Lm_count_13 rfl rfl ?_
    refine cs_Lm_149_d (pc := 14) rfl d_Lm_count_14 ⟨⟨by decide, by decide⟩, rfl, rfl⟩ (s_isWind) (Nat.le_of_ble_eq_true rfl) ?_
    refine wh_if_eq (pc := 17) (tgt := 27) d_Lm_count_17 (by decide) (fun c_17 => absurd c_17 (by rw [rg_yes h1]; decide)) (fun c_17 => ?_)
    refine wh_iload_n (pc := 20) d_Lm_count_20 rfl rfl ?_
    refine cs_Lm_165_d (pc := 21) rfl d_Lm_count_21 ⟨⟨by decide, by decide⟩, rfl, rfl⟩ (s_isSum) (Nat.le_of_ble_eq_true rfl) ?_
    refine wh_if_ne (pc := 24) (tgt := 30) d_Lm_count_24 (by decide) (fun c_24 => absurd (rg_no (hb.resolve_left h1)) c_24) (fun c_24 => ?_)
    refine wh_bipush (pc := 27) (v := (-2)) d_Lm_count_27 (by decide) ?_
    refine wh_iret (pc := 29) d_Lm_count_29 rfl ?_
    exact ⟨rfl, rfl⟩
theorem c_countF {l : Launch} {D : va_G} {base : Nat} {h : Hp} (hF : WFS (laneS h 2)) {w v t : Int32} (hz : ¬ bI w (nW (laneS h 2)) = 0) (h1 : ¬ (v < 0 ∨ 2 < v)) (h2 : ¬ (t < 0 ∨ 99 < t)) (hn : gI h 0 12 = 6) : SD l D base M_Lm_count [.ref 0, .int w, .int v, .int t] h (some (.int (-4))) h := by
  refine SP.of [some (.ref 0), some (.int w), some (.int v), some (.int t)] (by decide) rfl (Nat.le_of_ble_eq_true rfl) ?_
  have hw5 := hF.1.1
  refine wh_aload_n (pc := 0) d_Lm_count_0 rfl rfl ?_
  refine gf_Lm_20 (pc := 1) rfl d_Lm_count_1 ?_
  refine wh_iload_n (pc := 4) d_Lm_count_4 rfl rfl ?_
  refine cv_Lm_101_d (pc := 5) (Or.inl rfl) rfl d_Lm_count_5 ⟨⟨by decide, by decide⟩, rfl, rfl⟩ (s_hasWindow (Or.inl rfl) (wf_w hF) hw5) (Nat.le_of_ble_eq_true rfl) ?_
  refine wh_if_ne (pc := 8) (tgt := 13) d_Lm_count_8 (by decide) (fun c_8 => ?_) (fun c_8 => absurd c_8 hz)
  refine wh_iload_n (pc := 13) d_Lm_count_13 rfl rfl ?_
  refine cs_Lm_149_d (pc := 14) rfl d_Lm_count_14 ⟨⟨by decide, by decide⟩, rfl, rfl⟩ (s_isWind) (Nat.le_of_ble_eq_true rfl) ?_
  refine wh_if_eq (pc := 17) (tgt := 27) d_Lm_count_17 (by decide) (fun c_17 => absurd c_17 (by rw [rg_yes h1]; decide)) (fun c_17 => ?_)
  refine wh_iload_n (pc := 20) d_Lm_count_20 rfl rfl ?_
  refine cs_Lm_165_d (pc := 21) rfl d_Lm_count_21 ⟨⟨by decide, by decide⟩, rfl, rfl⟩ (s_isSum) (Nat.le_of_ble_eq_true rfl) ?_
  refine wh_if_ne (pc := 24) (tgt := 30) d_Lm_count_24 (by decide) (fun c_24 => ?_) (fun c_24 => absurd c_24 (by rw [rg_yes h2]; decide))
  refine wh_aload_n (pc := 30) d_Lm_count_30 rfl rfl ?_
  refine gf_Lm_58 (pc := 31) rfl d_Lm_count_31 ?_
  refine wh_if_lt (pc := 34) (tgt := 46) d_Lm_count_34 (by decide) (fun c_34 => absurd c_34 (by rw [hn]; decide)) (fun c_34 => ?_)
  refine wh_aload_n (pc := 37) d_Lm_count_37 rfl rfl ?_
  refine gf_Lm_58 (pc := 38) rfl d_Lm_count_38 ?_
  refine wh_bipush (pc := 41) (v := 6) d_Lm_count_41 (by decide) ?_
  refine wh_icmp_lt (pc := 43) (tgt := 49) d_Lm_count_43 (by decide) (fun c_43 => absurd c_43 (by rw [hn]; decide)) (fun c_43 => ?_)
  refine wh_bipush (pc := 46) (v := (-4)) d_Lm_count_46 (by decide) ?_
  refine wh_iret (pc := 48) d_Lm_count_48 rfl ?_
  exact ⟨rfl, rfl⟩
theorem c_countY {l : Launch} {D : va_G} {base : Nat} {h : Hp} (hF : WFS (laneS h 2)) {w v t : Int32} (hz : ¬ bI w (nW (laneS h 2)) = 0) (h1 : ¬ (v < 0 ∨ 2 < v)) (h2 : ¬ (t < 0 ∨ 99 < t)) {n : Nat} (hn : gI h 0 12 = nI n) (h6 : n < 6) : SD l D base M_Lm_count [.ref 0, .int w, .int v, .int t] h (some (.int (nI (n + 1)))) (sI (sI (sI (sI h 38 n w) 39 n v) 40 n t) 0 12 (nI (n + 1))) := by
  refine SP.of [some (.ref 0), some (.int w), some (.int v), some (.int t)] (by decide) rfl (Nat.le_of_ble_eq_true rfl) ?_
  have hw5 := hF.1.1
  refine wh_aload_n (pc := 0) d_Lm_count_0 rfl rfl ?_
  refine gf_Lm_20 (pc := 1) rfl d_Lm_count_1 ?_
  refine wh_iload_n (pc := 4) d_Lm_count_4 rfl rfl ?_
  refine cv_Lm_101_d (pc := 5) (Or.inl rfl) rfl d_Lm_count_5 ⟨⟨by decide, by decide⟩, rfl, rfl⟩ (s_hasWindow (Or.inl rfl) (wf_w hF) hw5) (Nat.le_of_ble_eq_true rfl) ?_
  refine wh_if_ne (pc := 8) (tgt := 13) d_Lm_count_8 (by decide) (fun c_8 => ?_) (fun c_8 => absurd c_8 hz)
  refine wh_iload_n (pc := 13) d_Lm_count_13 rfl rfl ?_
  refine cs_Lm_149_d (pc := 14) rfl d_Lm_count_14 ⟨⟨by decide, by decide⟩, rfl, rfl⟩ (s_isWind) (Nat.le_of_ble_eq_true rfl) ?_
  refine wh_if_eq (pc := 17) (tgt := 27) d_Lm_count_17 (by decide) (fun c_17 => absurd c_17 (by rw [rg_yes h1]; decide)) (fun c_17 => ?_)
  refine wh_iload_n (pc := 20) d_Lm_count_20 rfl rfl ?_
  refine cs_Lm_165_d (pc := 21) rfl d_Lm_count_21 ⟨⟨by decide, by decide⟩, rfl, rfl⟩ (s_isSum) (Nat.le_of_ble_eq_true rfl) ?_
  refine wh_if_ne (pc := 24) (tgt := 30) d_Lm_count_24 (by decide) (fun c_24 => ?_) (fun c_24 => absurd c_24 (by rw [rg_yes h2]; decide))
  refine wh_aload_n (pc := 30) d_Lm_count_30 rfl rfl ?_
  refine gf_Lm_58 (pc := 31) rfl d_Lm_count_31 ?_
  refine wh_if_lt (pc := 34) (tgt := 46) d_Lm_count_34 (by decide) (fun c_34 => absurd c_34 (by rw [hn]; exact nI_pos (by omega))) (fun c_34 => ?_)
  refine wh_aload_n (pc := 37) d_Lm_count_37 rfl rfl ?_
  refine gf_Lm_58 (pc := 38) rfl d_Lm_count_38 ?_
  refine wh_bipush (pc := 41) (v := 6) d_Lm_count_41 (by decide) ?_
  refine wh_icmp_lt (pc := 43) (tgt := 49) d_Lm_count_43 (by decide) (fun c_43 => ?_) (fun c_43 => absurd (by rw [hn]; exact nI_lt h6 (by decide)) c_43)
  refine wh_aload_n (pc := 49) d_Lm_count_49 rfl rfl ?_
  refine gf_Lm_49 (pc := 50) rfl d_Lm_count_50 ?_
  refine wh_aload_n (pc := 53) d_Lm_count_53 rfl rfl ?_
  refine gf_Lm_58 (pc := 54) rfl d_Lm_count_54 ?_
  refine wh_iload_n (pc := 57) d_Lm_count_57 rfl rfl ?_
  refine wh_iast (pc := 58) d_Lm_count_58 rfl (by simp (disch := decide) only [gI_sN, hn]; exact in_nI h6 (by omega)) ?_
  refine wh_aload_n (pc := 59) d_Lm_count_59 rfl rfl ?_
  refine gf_Lm_52 (pc := 60) rfl d_Lm_count_60 ?_
  refine wh_aload_n (pc := 63) d_Lm_count_63 rfl rfl ?_
  refine gf_Lm_58 (pc := 64) rfl d_Lm_count_64 ?_
  refine wh_iload_n (pc := 67) d_Lm_count_67 rfl rfl ?_
  refine wh_iast (pc := 68) d_Lm_count_68 rfl (by simp (disch := decide) only [gI_sN, hn]; exact in_nI h6 (by omega)) ?_
  refine wh_aload_n (pc := 69) d_Lm_count_69 rfl rfl ?_
  refine gf_Lm_55 (pc := 70) rfl d_Lm_count_70 ?_
  refine wh_aload_n (pc := 73) d_Lm_count_73 rfl rfl ?_
  refine gf_Lm_58 (pc := 74) rfl d_Lm_count_74 ?_
  refine wh_iload_n (pc := 77) d_Lm_count_77 rfl rfl ?_
  refine wh_iast (pc := 78) d_Lm_count_78 rfl (by simp (disch := decide) only [gI_sN, hn]; exact in_nI h6 (by omega)) ?_
  refine wh_aload_n (pc := 79) d_Lm_count_79 rfl rfl ?_
  refine wh_dup (pc := 80) d_Lm_count_80 rfl ?_
  refine gf_Lm_58 (pc := 81) rfl d_Lm_count_81 ?_
  refine wh_iconst (pc := 84) (v := 1) d_Lm_count_84 (by decide) ?_
  refine wh_iadd (pc := 85) d_Lm_count_85 ?_
  refine pf_Lm_58 (pc := 86) rfl d_Lm_count_86 ?_
  refine wh_aload_n (pc := 89) d_Lm_count_89 rfl rfl ?_
  refine gf_Lm_58 (pc := 90) rfl d_Lm_count_90 ?_
  refine wh_iret (pc := 93) d_Lm_count_93 rfl ?_
  simp (disch := decide) only [gI_sS, gI_sN, hn]
  rw [nI_1, cl_nI (by omega)]
  exact ⟨rfl, rfl⟩
theorem r_countU {l : Launch} {D : va_G} {base : Nat} {h : Hp} (hF : WFS (pageS h 48)) {w v t : Int32} (hz : bI w (nW (pageS h 48)) = 0) : SD l D base M_Md_count [.ref 42, .int w, .int v, .int t] h (some (.int (-1))) (sI h 42 0 0) := by
  refine SP.of [some (.ref 42), some (.int w), some (.int v), some (.int t)] (by decide) rfl (Nat.le_of_ble_eq_true rfl) ?_
  have hw5 := hF.1.1
  refine wh_aload_n (pc := 0) d_Md_count_0 rfl rfl ?_
  refine wh_iconst (pc := 1) (v := 0) d_Md_count_1 (by decide) ?_
  refine pf_Md_62 (pc := 2) rfl d_Md_count_2 ?_
  refine wh_aload_n (pc := 5) d_Md_count_5 rfl rfl ?_
  refine wh_iload_n (pc := 6) d_Md_count_6 rfl rfl ?_
  refine cv_Md_157_d (pc := 7) rfl d_Md_count_7 ⟨⟨by decide, by decide⟩, rfl, rfl⟩ (m_noW (n := nW (pageS h 48)) (by rw [gI_sI, if_neg (by decide)]; exact pf_w hF) (by omega)) (Nat.le_of_ble_eq_true rfl) ?_
  refine wh_if_eq (pc := 10) (tgt := 15) d_Md_count_10 (by decide) (fun c_10 => absurd c_10 (bN_n hz)) (fun c_10 => ?_)
  refine wh_iconst (pc := 13) (v := (-1)) d_Md_count_13 (by decide) ?_
  refine wh_iret (pc := 14) d_Md_count_14 rfl ?_
  exact ⟨rfl, rfl⟩
theorem r_countB {l : Launch} {D : va_G} {base : Nat} {h : Hp} (hF : WFS (pageS h 48)) {w v t : Int32} (hz : ¬ bI w (nW (pageS h 48)) = 0) (hb : (v < 0 ∨ 2 < v) ∨ (t < 0 ∨ 99 < t)) : SD l D base M_Md_count [.ref 42, .int w, .int v, .int t] h (some (.int (-2))) (sI h 42 0 0) := by
  refine SP.of [some (.ref 42), some (.int w), some (.int v), some (.int t)] (by decide) rfl (Nat.le_of_ble_eq_true rfl) ?_
  have hw5 := hF.1.1
  by_cases h1 : v < 0 ∨ 2 < v
  · refine wh_aload_n (pc := 0) d_Md_count_0 rfl rfl ?_
    refine wh_iconst (pc := 1) (v := 0) d_Md_count_1 (by decide) ?_
    refine pf_Md_62 (pc := 2) rfl d_Md_count_2 ?_
    refine wh_aload_n (pc := 5) d_Md_count_5 rfl rfl ?_
    refine wh_iload_n (pc := 6) d_Md_count_6 rfl rfl ?_
    refine cv_Md_157_d (pc := 7) rfl d_Md_count_7 ⟨⟨by decide, by decide⟩, rfl, rfl⟩ (m_noW (n := nW (pageS h 48)) (by rw [gI_sI, if_neg (by decide)]; exact pf_w hF) (by omega)) (Nat.le_of_ble_eq_true rfl) ?_
    refine wh_if_eq (pc := 10) (tgt := 15) d_Md_count_10 (by decide) (fun c_10 => ?_) (fun c_10 => absurd (by rcases bI_two (w := w) (n := nW (pageS h 48)) (by omega) with q | ⟨k, hk, rfl⟩; exact absurd q hz; exact bN_k hk (by omega)) c_10)
    refine wh_iload_n (pc := 15) d_Md_count_15 rfl rfl ?_
    refine wh_i2l (pc := 16) d_Md_count_16 ?_
    refine wh_lconst (pc := 17) (v := 0) d_Md_count_17 (by decide) ?_
    refine wh_ldc2 (pc := 18) d_Md_count_18 kc_Md_172 ?_
    refine cs_Md_69_d (pc := 21) rfl d_Md_count_21 ⟨⟨by decide, by decide⟩, rfl, rfl⟩ (m_in) (Nat.le_of_ble_eq_true rfl) ?_
    refine wh_if_eq (pc := 24) (tgt := 39) d_Md_count_24 (by decide) (fun c_24 => ?_) (fun c_24 => absurd ((inL v 0 2 rfl rfl).mpr h1) c_24)
    refine wh_bipush (pc := 39) (v := (-2)) d_Md_count_39 (by decide) ?_
    refine wh_iret (pc := 41) d_Md_count_41 rfl ?_
    exact ⟨rfl, rfl⟩
  · refine wh_aload_n (pc := 0) d_Md_count_0 rfl rfl ?_
    refine wh_iconst (pc := 1) (v := 0) d_Md_count_1 (by decide) ?_
    refine pf_Md_62 (pc := 2) rfl d_Md_count_2 ?_
    refine wh_aload_n (pc := 5) d_Md_count_5 rfl rfl ?_
    refine wh_iload_n (pc := 6) d_Md_count_6 rfl rfl ?_
    refine cv_Md_157_d (pc := 7) rfl d_Md_count_7 ⟨⟨by decide, by decide⟩, rfl, rfl⟩ (m_noW (n := nW (pageS h 48)) (by rw [gI_sI, if_neg (by decide)]; exact pf_w hF) (by omega)) (Nat.le_of_ble_eq_true rfl) ?_
    refine wh_if_eq (pc := 10) (tgt := 15) d_Md_count_10 (by decide) (fun c_10 => ?_) (fun c_10 => absurd (by rcases bI_two (w := w) (n := nW (pageS h 48)) (by omega) with q | ⟨k, hk, rfl⟩; exact absurd q hz; exact bN_k hk (by omega)) c_10)
    refine wh_iload_n (pc := 15) d_Md_count_15 rfl rfl ?_
    refine wh_i2l (pc := 16) d_Md_count_16 ?_
    refine wh_lconst (pc := 17) (v := 0) d_Md_count_17 (by decide) ?_
    refine wh_ldc2 (pc := 18) d_Md_count_18 kc_Md_172 ?_
    refine cs_Md_69_d (pc := 21) rfl d_Md_count_21 ⟨⟨by decide, by decide⟩, rfl, rfl⟩ (m_in) (Nat.le_of_ble_eq_true rfl) ?_
    refine wh_if_eq (pc := 24) (tgt := 39) d_Md_count_24 (by decide) (fun c_24 => absurd c_24 (fun z => h1 ((inL v 0 2 rfl rfl).mp z))) (fun c_24 => ?_)
    refine wh_iload_n (pc := 27) d_Md_count_27 rfl rfl ?_
    refine wh_i2l (pc := 28) d_Md_count_28 ?_
    refine wh_lconst (pc := 29) (v := 0) d_Md_count_29 (by decide) ?_
    refine wh_ldc2 (pc := 30) d_Md_count_30 kc_Md_183 ?_
    refine cs_Md_69_d (pc := 33) rfl d_Md_count_33 ⟨⟨by decide, by decide⟩, rfl, rfl⟩ (m_in) (Nat.le_of_ble_eq_true rfl) ?_
    refine wh_if_ne (pc := 36) (tgt := 42) d_Md_count_36 (by decide) (fun c_36 => absurd ((inL t 0 99 rfl rfl).mpr (hb.resolve_left h1)) c_36) (fun c_36 => ?_)
    refine wh_bipush (pc := 39) (v := (-2)) d_Md_count_39 (by decide) ?_
    refine wh_iret (pc := 41) d_Md_count_41 rfl ?_
    exact ⟨rfl, rfl⟩
theorem r_countF {l : Launch} {D : va_G} {base : Nat} {h : Hp} (hF : WFS (pageS h 48)) {w v t : Int32} (hz : ¬ bI w (nW (pageS h 48)) = 0) (h1 : ¬ (v < 0 ∨ 2 < v)) (h2 : ¬ (t < 0 ∨ 99 < t)) (hn : gI h 42 20 = 6) : SD l D base M_Md_count [.ref 42, .int w, .int v, .int t] h (some (.int (-4))) (sI h 42 0 0) := by
  refine SP.of [some (.ref 42), some (.int w), some (.int v), some (.int t)] (by decide) rfl (Nat.le_of_ble_eq_true rfl) ?_
  have hw5 := hF.1.1
  refine wh_aload_n (pc := 0) d_Md_count_0 rfl rfl ?_
  refine wh_iconst (pc := 1) (v := 0) d_Md_count_1 (by decide) ?_
  refine pf_Md_62 (pc := 2) rfl d_Md_count_2 ?_
  refine wh_aload_n (pc := 5) d_Md_count_5 rfl rfl ?_
  refine wh_iload_n (pc := 6) d_Md_count_6 rfl rfl ?_
  refine cv_Md_157_d (pc := 7) rfl d_Md_count_7 ⟨⟨by decide, by decide⟩, rfl, rfl⟩ (m_noW (n := nW (pageS h 48)) (by rw [gI_sI, if_neg (by decide)]; exact pf_w hF) (by omega)) (Nat.le_of_ble_eq_true rfl) ?_
  refine wh_if_eq (pc := 10) (tgt := 15) d_Md_count_10 (by decide) (fun c_10 => ?_) (fun c_10 => absurd (by rcases bI_two (w := w) (n := nW (pageS h 48)) (by omega) with q | ⟨k, hk, rfl⟩; exact absurd q hz; exact bN_k hk (by omega)) c_10)
  refine wh_iload_n (pc := 15) d_Md_count_15 rfl rfl ?_
  refine wh_i2l (pc := 16) d_Md_count_16 ?_
  refine wh_lconst (pc := 17) (v := 0) d_Md_count_17 (by decide) ?_
  refine wh_ldc2 (pc := 18) d_Md_count_18 kc_Md_172 ?_
  refine cs_Md_69_d (pc := 21) rfl d_Md_count_21 ⟨⟨by decide, by decide⟩, rfl, rfl⟩ (m_in) (Nat.le_of_ble_eq_true rfl) ?_
  refine wh_if_eq (pc := 24) (tgt := 39) d_Md_count_24 (by decide) (fun c_24 => absurd c_24 (fun z => h1 ((inL v 0 2 rfl rfl).mp z))) (fun c_24 => ?_)
  refine wh_iload_n (pc := 27) d_Md_count_27 rfl rfl ?_
  refine wh_i2l (pc := 28) d_Md_count_28 ?_
  refine wh_lconst (pc := 29) (v := 0) d_Md_count_29 (by decide) ?_
  refine wh_ldc2 (pc := 30) d_Md_count_30 kc_Md_183 ?_
  refine cs_Md_69_d (pc := 33) rfl d_Md_count_33 ⟨⟨by decide, by decide⟩, rfl, rfl⟩ (m_in) (Nat.le_of_ble_eq_true rfl) ?_
  refine wh_if_ne (pc := 36) (tgt := 42) d_Md_count_36 (by decide) (fun c_36 => ?_) (fun c_36 => absurd c_36 (fun z => h2 ((inL t 0 99 rfl rfl).mp z)))
  refine wh_aload_n (pc := 42) d_Md_count_42 rfl rfl ?_
  refine gf_Md_154 (pc := 43) rfl d_Md_count_43 ?_
  refine wh_bipush (pc := 46) (v := 6) d_Md_count_46 (by decide) ?_
  refine wh_icmp_ne (pc := 48) (tgt := 54) d_Md_count_48 (by decide) (fun c_48 => absurd (by rw [gI_sI, if_neg (by decide)]; exact hn) c_48) (fun c_48 => ?_)
  refine wh_bipush (pc := 51) (v := (-4)) d_Md_count_51 (by decide) ?_
  refine wh_iret (pc := 53) d_Md_count_53 rfl ?_
  exact ⟨rfl, rfl⟩
theorem r_countY {l : Launch} {D : va_G} {base : Nat} {h : Hp} (hF : WFS (pageS h 48)) {w v t : Int32} (hz : ¬ bI w (nW (pageS h 48)) = 0) (h1 : ¬ (v < 0 ∨ 2 < v)) (h2 : ¬ (t < 0 ∨ 99 < t)) {n : Nat} (hn : gI h 42 20 = nI n) (h6 : n < 6) : SD l D base M_Md_count [.ref 42, .int w, .int v, .int t] h (some (.int (nI (n + 1)))) (sI (sI (sI (sI (sI h 42 0 0) 53 n w) 54 n v) 55 n t) 42 20 (nI (n + 1))) := by
  refine SP.of [some (.ref 42), some (.int w), some (.int v), some (.int t)] (by decide) rfl (Nat.le_of_ble_eq_true rfl) ?_
  have hw5 := hF.1.1
  have e0 : gI (sI h 42 0 0) 42 20 = nI n := by rw [gI_sI, if_neg (by decide)]; exact hn
  refine wh_aload_n (pc := 0) d_Md_count_0 rfl rfl ?_
  refine wh_iconst (pc := 1) (v := 0) d_Md_count_1 (by decide) ?_
  refine pf_Md_62 (pc := 2) rfl d_Md_count_2 ?_
  refine wh_aload_n (pc := 5) d_Md_count_5 rfl rfl ?_
  refine wh_iload_n (pc := 6) d_Md_count_6 rfl rfl ?_
  refine cv_Md_157_d (pc := 7) rfl d_Md_count_7 ⟨⟨by decide, by decide⟩, rfl, rfl⟩ (m_noW (n := nW (pageS h 48)) (by rw [gI_sI, if_neg (by decide)]; exact pf_w hF) (by omega)) (Nat.le_of_ble_eq_true rfl) ?_
  refine wh_if_eq (pc := 10) (tgt := 15) d_Md_count_10 (by decide) (fun c_10 => ?_) (fun c_10 => absurd (by rcases bI_two (w := w) (n := nW (pageS h 48)) (by omega) with q | ⟨k, hk, rfl⟩; exact absurd q hz; exact bN_k hk (by omega)) c_10)
  refine wh_iload_n (pc := 15) d_Md_count_15 rfl rfl ?_
  refine wh_i2l (pc := 16) d_Md_count_16 ?_
  refine wh_lconst (pc := 17) (v := 0) d_Md_count_17 (by decide) ?_
  refine wh_ldc2 (pc := 18) d_Md_count_18 kc_Md_172 ?_
  refine cs_Md_69_d (pc := 21) rfl d_Md_count_21 ⟨⟨by decide, by decide⟩, rfl, rfl⟩ (m_in) (Nat.le_of_ble_eq_true rfl) ?_
  refine wh_if_eq (pc := 24) (tgt := 39) d_Md_count_24 (by decide) (fun c_24 => absurd c_24 (fun z => h1 ((inL v 0 2 rfl rfl).mp z))) (fun c_24 => ?_)
  refine wh_iload_n (pc := 27) d_Md_count_27 rfl rfl ?_
  refine wh_i2l (pc := 28) d_Md_count_28 ?_
  refine wh_lconst (pc := 29) (v := 0) d_Md_count_29 (by decide) ?_
  refine wh_ldc2 (pc := 30) d_Md_count_30 kc_Md_183 ?_
  refine cs_Md_69_d (pc := 33) rfl d_Md_count_33 ⟨⟨by decide, by decide⟩, rfl, rfl⟩ (m_in) (Nat.le_of_ble_eq_true rfl) ?_
  refine wh_if_ne (pc := 36) (tgt := 42) d_Md_count_36 (by decide) (fun c_36 => ?_) (fun c_36 => absurd c_36 (fun z => h2 ((inL t 0 99 rfl rfl).mp z)))
  refine wh_aload_n (pc := 42) d_Md_count_42 rfl rfl ?_
  refine gf_Md_154 (pc := 43) rfl d_Md_count_43 ?_
  refine wh_bipush (pc := 46) (v := 6) d_Md_count_46 (by decide) ?_
  refine wh_icmp_ne (pc := 48) (tgt := 54) d_Md_count_48 (by decide) (fun c_48 => ?_) (fun c_48 => absurd c_48 (by rw [e0]; exact fun z => absurd ((nI_eq (by omega) (by decide)).mp (show nI n = nI 6 from z)) (by omega)))
  refine wh_aload_n (pc := 54) d_Md_count_54 rfl rfl ?_
  refine gf_Md_41 (pc := 55) rfl d_Md_count_55 ?_
  refine wh_aload_n (pc := 58) d_Md_count_58 rfl rfl ?_
  refine gf_Md_154 (pc := 59) rfl d_Md_count_59 ?_
  refine wh_iload_n (pc := 62) d_Md_count_62 rfl rfl ?_
  refine wh_iast (pc := 63) d_Md_count_63 rfl (by simp (disch := omega) only [gI_sM, hn]; exact in_nI h6 (by omega)) ?_
  refine wh_aload_n (pc := 64) d_Md_count_64 rfl rfl ?_
  refine gf_Md_44 (pc := 65) rfl d_Md_count_65 ?_
  refine wh_aload_n (pc := 68) d_Md_count_68 rfl rfl ?_
  refine gf_Md_154 (pc := 69) rfl d_Md_count_69 ?_
  refine wh_iload_n (pc := 72) d_Md_count_72 rfl rfl ?_
  refine wh_iast (pc := 73) d_Md_count_73 rfl (by simp (disch := omega) only [gI_sM, hn]; exact in_nI h6 (by omega)) ?_
  refine wh_aload_n (pc := 74) d_Md_count_74 rfl rfl ?_
  refine gf_Md_47 (pc := 75) rfl d_Md_count_75 ?_
  refine wh_aload_n (pc := 78) d_Md_count_78 rfl rfl ?_
  refine gf_Md_154 (pc := 79) rfl d_Md_count_79 ?_
  refine wh_iload_n (pc := 82) d_Md_count_82 rfl rfl ?_
  refine wh_iast (pc := 83) d_Md_count_83 rfl (by simp (disch := omega) only [gI_sM, hn]; exact in_nI h6 (by omega)) ?_
  refine wh_aload_n (pc := 84) d_Md_count_84 rfl rfl ?_
  refine wh_dup (pc := 85) d_Md_count_85 rfl ?_
  refine gf_Md_154 (pc := 86) rfl d_Md_count_86 ?_
  refine wh_iconst (pc := 89) (v := 1) d_Md_count_89 (by decide) ?_
  refine wh_iadd (pc := 90) d_Md_count_90 ?_
  refine pf_Md_154 (pc := 91) rfl d_Md_count_91 ?_
  refine wh_aload_n (pc := 94) d_Md_count_94 rfl rfl ?_
  refine gf_Md_154 (pc := 95) rfl d_Md_count_95 ?_
  refine wh_iret (pc := 98) d_Md_count_98 rfl ?_
  simp (disch := omega) only [gI_sS, gI_sM, hn, nI_1, cl_nI]
  first | exact ⟨rfl, rfl⟩ | exact ⟨rfl, trivial⟩ | exact ⟨trivial, trivial⟩ | exact ⟨trivial, rfl⟩
theorem x_count {l : Launch} {D : va_G} {base : Nat} (w v t : Int32) : CMD l D base M_Lm_count M_Md_count [.int w, .int v, .int t] := by
  intro h hr
  obtain ⟨hSt, hF⟩ := hr.street
  by_cases hz : bI w (nW (laneS h 2)) = 0
  · exact SI.of (c_countU hF hz) (SI.of (r_countU (by rw [← hSt]; exact hF) (by rw [← hSt]; exact hz)) ⟨rfl, hr.fm fm_thr⟩)
  · by_cases hb : (v < 0 ∨ 2 < v) ∨ (t < 0 ∨ 99 < t)
    · exact SI.of (c_countB hF hz hb) (SI.of (r_countB (by rw [← hSt]; exact hF) (by rw [← hSt]; exact hz) hb) ⟨rfl, hr.fm fm_thr⟩)
    · have h1 : ¬ (v < 0 ∨ 2 < v) := fun z => hb (Or.inl z)
      have h2 : ¬ (t < 0 ∨ 99 < t) := fun z => hb (Or.inr z)
      have hr0 := hr
      obtain ⟨n, m, r0, r1, r2, r3, ⟨nc, ⟨l1, l2, l3⟩, l4⟩, r5, r6⟩ := hr
      by_cases h6 : nc = 6
      · subst h6
        exact SI.of (c_countF hF hz h1 h2 l2) (SI.of (r_countF (by rw [← hSt]; exact hF) (by rw [← hSt]; exact hz) h1 h2 l3) ⟨rfl, hr0.fm fm_thr⟩)
      · have eP : pageS (sI (sI (sI (sI h 38 nc w) 39 nc v) 40 nc t) 0 12 (nI (nc + 1))) 48 = laneS h 2 := by
          rw [hSt]; exact page_cls (fun c j q => by rw [gI_sN (by omega), gI_sN (by omega), gI_sN (by omega), gI_sN (by omega)])
        refine SI.of (c_countY hF hz h1 h2 l2 (by omega)) (SI.of (r_countY (n := nc) (by rw [eP]; exact hF) (by rw [eP]; exact hz) h1 h2 (by rw [gI_sN (by decide), gI_sN (by decide), gI_sN (by decide), gI_sN (by decide)]; exact l3) (by omega)) ⟨rfl, ?_⟩)
        generalize hh : sI (sI (sI (sI (sI (sI (sI (sI (sI h 38 nc w) 39 nc v) 40 nc t) 0 12 (nI (nc + 1))) 42 0 0) 53 nc w) 54 nc v) 55 nc t) 42 20 (nI (nc + 1)) = h2
        have o2 : ∀ c j, ¬ (38 ≤ c ∧ c ≤ 40 ∧ j = nc) → ¬ (c = 0 ∧ j = 12) → ¬ (c = 42 ∧ j = 0) → ¬ (53 ≤ c ∧ c ≤ 55 ∧ j = nc) → ¬ (c = 42 ∧ j = 20) → gI h2 c j = gI h c j := fun c j z1 z2 z3 z4 z5 => by
          rw [← hh, gI_sI, if_neg z5, gI_sI, if_neg (by omega), gI_sI, if_neg (by omega), gI_sI, if_neg (by omega), gI_sI, if_neg z3, gI_sI, if_neg z2, gI_sI, if_neg (by omega), gI_sI, if_neg (by omega), gI_sI, if_neg (by omega)]
        have e2 : h2.2 = h.2 := by rw [← hh]; rfl
        have hn := r0.1.1
        have hm := r0.2.1.1
        refine ⟨n, m, r0.ag (fun c j z => by unfold T_st at z; exact o2 c j (by omega) (by omega) (by omega) (by omega) (by omega)), r1.same e2, r2.ag (fun c j z => by unfold T_ac at z; exact o2 c j (by omega) (by omega) (by omega) (by omega) (by omega)) (fun k => by unfold gR; rw [e2]) r1 hn hm, r3.ag (fun c j z => by unfold T_sl at z; exact o2 c j (by omega) (by omega) (by omega) (by omega) (by omega)) hn hm, ⟨nc + 1, ⟨by omega, ?_, ?_⟩, fun i hi => ?_⟩, r5.ag (fun c j z => by unfold T_tx at z; exact o2 c j (by omega) (by omega) (by omega) (by omega) (by omega)), by unfold gL; rw [e2]; exact r6⟩
        · rw [← hh, gI_sN (by decide), gI_sN (by decide), gI_sN (by decide), gI_sN (by decide), gI_sN (by decide), gI_sS]
        · rw [← hh, gI_sS]
        · by_cases e : i = nc
          · subst e
            rw [← hh]
            simp (disch := decide) only [gI_sN, gI_sS]
            first | exact ⟨rfl, rfl, rfl⟩ | exact ⟨trivial, trivial, trivial⟩ | exact ⟨rfl, trivial, trivial⟩
          · rw [o2 38 i (by omega) (by omega) (by omega) (by omega) (by omega), o2 53 i (by omega) (by omega) (by omega) (by omega) (by omega), o2 39 i (by omega) (by omega) (by omega) (by omega) (by omega), o2 54 i (by omega) (by omega) (by omega) (by omega) (by omega), o2 40 i (by omega) (by omega) (by omega) (by omega) (by omega), o2 55 i (by omega) (by omega) (by omega) (by omega) (by omega)]
            exact l4 i (by omega)

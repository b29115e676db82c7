theorem c_undoL {l : Launch} {D : va_G} {base : Nat} {h : Hp} (hn : gI h 0 6 = 0) : SD l D base M_Lm_undo [.ref 0] h (some (.int (-3))) h := by
  refine SP.of [some (.ref 0)] (by decide) rfl (Nat.le_of_ble_eq_true rfl) ?_
  refine wh_aload_n (pc := 0) d_Lm_undo_0 rfl rfl ?_
  refine gf_Lm_39 (pc := 1) rfl d_Lm_undo_1 ?_
  refine wh_iconst (pc := 4) (v := 1) d_Lm_undo_4 (by decide) ?_
  refine wh_icmp_lt (pc := 5) (tgt := 17) d_Lm_undo_5 (by decide) (fun c_5 => ?_) (fun c_5 => absurd (by rw [hn]; decide) c_5)
  refine wh_bipush (pc := 17) (v := (-3)) d_Lm_undo_17 (by decide) ?_
  refine wh_iret (pc := 19) d_Lm_undo_19 rfl ?_
  exact ⟨rfl, rfl⟩
theorem c_undoY {l : Launch} {D : va_G} {base : Nat} {h : Hp} {na : Nat} (hn : gI h 0 6 = nI (na + 1)) (ha : na + 1 ≤ 14) {r : Nat} (hr : gR h 19 na = some r) (q1 : 20 ≤ r) (q2 : r ≤ 33) : SD l D base M_Lm_undo [.ref 0] h (some (.int (nI na))) (ldN (sI h 0 6 (nI na)) 2 r 5 6 3) := by
  refine SP.of [some (.ref 0)] (by decide) rfl (Nat.le_of_ble_eq_true rfl) ?_
  have e1 : gI h 0 6 - 1 = nI na := by rw [hn]; exact nI_pred na
  have e2 : gI (sI h 0 6 (nI na)) 0 6 = nI na := gI_sS _ _ _ _
  refine wh_aload_n (pc := 0) d_Lm_undo_0 rfl rfl ?_
  refine gf_Lm_39 (pc := 1) rfl d_Lm_undo_1 ?_
  refine wh_iconst (pc := 4) (v := 1) d_Lm_undo_4 (by decide) ?_
  refine wh_icmp_lt (pc := 5) (tgt := 17) d_Lm_undo_5 (by decide) (fun c_5 => absurd c_5 (by rw [hn]; exact nI_nlt (show 1 ≤ na + 1 by omega) (by omega))) (fun c_5 => ?_)
  refine wh_aload_n (pc := 8) d_Lm_undo_8 rfl rfl ?_
  refine gf_Lm_39 (pc := 9) rfl d_Lm_undo_9 ?_
  refine wh_bipush (pc := 12) (v := 14) d_Lm_undo_12 (by decide) ?_
  refine wh_icmp_le (pc := 14) (tgt := 20) d_Lm_undo_14 (by decide) (fun c_14 => ?_) (fun c_14 => absurd (by rw [hn]; exact nI_le (show na + 1 ≤ 14 by omega) (by decide)) c_14)
  refine wh_aload_n (pc := 20) d_Lm_undo_20 rfl rfl ?_
  refine wh_dup (pc := 21) d_Lm_undo_21 rfl ?_
  refine gf_Lm_39 (pc := 22) rfl d_Lm_undo_22 ?_
  refine wh_iconst (pc := 25) (v := 1) d_Lm_undo_25 (by decide) ?_
  refine wh_isub (pc := 26) d_Lm_undo_26 ?_
  refine pf_Lm_39 (pc := 27) rfl d_Lm_undo_27 ?_
  rw [e1]
  refine wh_aload_n (pc := 30) d_Lm_undo_30 rfl rfl ?_
  refine gf_Lm_20 (pc := 31) rfl d_Lm_undo_31 ?_
  refine wh_aload_n (pc := 34) d_Lm_undo_34 rfl rfl ?_
  refine gf_Lm_36 (pc := 35) rfl d_Lm_undo_35 ?_
  refine wh_aload_n (pc := 38) d_Lm_undo_38 rfl rfl ?_
  refine gf_Lm_39 (pc := 39) rfl d_Lm_undo_39 ?_
  refine wh_aald (pc := 42) d_Lm_undo_42 rfl (by rw [e2]; exact in_nI (by omega) (by omega)) (show gR (sI h 0 6 (nI na)) 19 (gI (sI h 0 6 (nI na)) 0 6).toNatClampNeg = some r by rw [e2, cl_nI (by omega)]; exact hr) ?_
  refine cv_Lm_161_d (pc := 43) (Or.inl rfl) rfl d_Lm_undo_43 ⟨⟨by decide, by decide⟩, rfl, rfl⟩ (s_load (Or.inl rfl) (row_sh q1 q2) (by omega)) (Nat.le_of_ble_eq_true rfl) ?_
  refine wh_aload_n (pc := 46) d_Lm_undo_46 rfl rfl ?_
  refine gf_Lm_39 (pc := 47) rfl d_Lm_undo_47 ?_
  refine wh_iret (pc := 50) d_Lm_undo_50 rfl ?_
  refine ⟨rfl, ?_⟩
  rw [ld_out (by omega), e2]
theorem r_undoL {l : Launch} {D : va_G} {base : Nat} {h : Hp} (hn : gI h 42 17 = 0) : SD l D base M_Md_undo [.ref 42] h (some (.int (-3))) (sI h 42 0 0) := by
  refine SP.of [some (.ref 42), none] (by decide) rfl (Nat.le_of_ble_eq_true rfl) ?_
  refine wh_aload_n (pc := 0) d_Md_undo_0 rfl rfl ?_
  refine wh_iconst (pc := 1) (v := 0) d_Md_undo_1 (by decide) ?_
  refine pf_Md_62 (pc := 2) rfl d_Md_undo_2 ?_
  refine wh_aload_n (pc := 5) d_Md_undo_5 rfl rfl ?_
  refine gf_Md_119 (pc := 6) rfl d_Md_undo_6 ?_
  refine wh_if_ne (pc := 9) (tgt := 15) d_Md_undo_9 (by decide) (fun c_9 => absurd (by rw [gI_sI, if_neg (by decide)]; exact hn) c_9) (fun c_9 => ?_)
  refine wh_bipush (pc := 12) (v := (-3)) d_Md_undo_12 (by decide) ?_
  refine wh_iret (pc := 14) d_Md_undo_14 rfl ?_
  exact ⟨rfl, rfl⟩
theorem r_undoY {l : Launch} {D : va_G} {base : Nat} {h : Hp} {na : Nat} (hn : gI h 42 17 = nI (na + 1)) (ha : na + 1 ≤ 14) : SD l D base M_Md_undo [.ref 42] h (some (.int (nI na))) (fillA (sI (sI h 42 0 0) 42 17 (nI na)) 48 (fun k => gI h 50 (24 * na + k)) 24) := by
  refine SP.of [some (.ref 42), none] (by decide) rfl (Nat.le_of_ble_eq_true rfl) ?_
  have e0 : gI (sI h 42 0 0) 42 17 = nI (na + 1) := by rw [gI_sI, if_neg (by decide)]; exact hn
  have e1 : gI (sI h 42 0 0) 42 17 - 1 = nI na := by rw [e0]; exact nI_pred na
  have e2 : ∀ i, gI (fillA (sI (sI h 42 0 0) 42 17 (nI na)) 48 (fun k => gI h 50 (24 * na + k)) i) 42 17 = nI na := fun i => by rw [gI_fillN (by decide)]; exact gI_sS _ _ _ _
  refine wh_aload_n (pc := 0) d_Md_undo_0 rfl rfl ?_
  refine wh_iconst (pc := 1) (v := 0) d_Md_undo_1 (by decide) ?_
  refine pf_Md_62 (pc := 2) rfl d_Md_undo_2 ?_
  refine wh_aload_n (pc := 5) d_Md_undo_5 rfl rfl ?_
  refine gf_Md_119 (pc := 6) rfl d_Md_undo_6 ?_
  refine wh_if_ne (pc := 9) (tgt := 15) d_Md_undo_9 (by decide) (fun c_9 => ?_) (fun c_9 => absurd c_9 (by rw [e0]; exact nI_ne0 (by omega) (by omega)))
  refine wh_aload_n (pc := 15) d_Md_undo_15 rfl rfl ?_
  refine wh_dup (pc := 16) d_Md_undo_16 rfl ?_
  refine gf_Md_119 (pc := 17) rfl d_Md_undo_17 ?_
  refine wh_iconst (pc := 20) (v := 1) d_Md_undo_20 (by decide) ?_
  refine wh_isub (pc := 21) d_Md_undo_21 ?_
  refine pf_Md_119 (pc := 22) rfl d_Md_undo_22 ?_
  rw [e1]
  refine wh_iconst (pc := 25) (v := 0) d_Md_undo_25 (by decide) ?_
  refine wh_istore_n (pc := 26) (ls2 := [_, _]) d_Md_undo_26 rfl (by decide) rfl rfl ?_
  refine wh_eq (wh_loop (24) (fun i => [some (.ref 42), some (.int (nI i))]) (fun i => fillA (sI (sI h 42 0 0) 42 17 (nI na)) 48 (fun k => gI h 50 (24 * na + k)) i) (fun i => True) ?_ ?_ 0 (Nat.zero_le _) trivial) ?_ rfl ?_
  · intro _
    refine wh_iload_n (pc := 27) d_Md_undo_27 rfl rfl ?_
    refine wh_bipush (pc := 28) (v := 24) d_Md_undo_28 (by decide) ?_
    refine wh_icmp_ge (pc := 30) (tgt := 59) d_Md_undo_30 (by decide) (fun c_30 => ?_) (fun c_30 => absurd (by decide) c_30)
    refine wh_aload_n (pc := 59) d_Md_undo_59 rfl rfl ?_
    refine gf_Md_119 (pc := 60) rfl d_Md_undo_60 ?_
    refine wh_iret (pc := 63) d_Md_undo_63 rfl ?_
    exact ⟨rfl, by rw [e2]⟩
  · intro i hi _ ih
    refine wh_iload_n (pc := 27) d_Md_undo_27 rfl rfl ?_
    refine wh_bipush (pc := 28) (v := 24) d_Md_undo_28 (by decide) ?_
    refine wh_icmp_ge (pc := 30) (tgt := 59) d_Md_undo_30 (by decide) (fun c_30 => absurd c_30 (nI_ge hi (by decide))) (fun c_30 => ?_)
    refine wh_aload_n (pc := 33) d_Md_undo_33 rfl rfl ?_
    refine gf_Md_25 (pc := 34) rfl d_Md_undo_34 ?_
    refine wh_iload_n (pc := 37) d_Md_undo_37 rfl rfl ?_
    refine wh_aload_n (pc := 38) d_Md_undo_38 rfl rfl ?_
    refine gf_Md_31 (pc := 39) rfl d_Md_undo_39 ?_
    refine wh_bipush (pc := 42) (v := 24) d_Md_undo_42 (by decide) ?_
    refine wh_aload_n (pc := 44) d_Md_undo_44 rfl rfl ?_
    refine gf_Md_119 (pc := 45) rfl d_Md_undo_45 ?_
    refine wh_imul (pc := 48) d_Md_undo_48 ?_
    refine wh_iload_n (pc := 49) d_Md_undo_49 rfl rfl ?_
    refine wh_iadd (pc := 50) d_Md_undo_50 ?_
    refine wh_iald (pc := 51) d_Md_undo_51 rfl (by first | exact in_nI (by omega) (by omega) | (rw [e2, m24]; exact in_nI (by omega) (by omega))) ?_
    refine wh_iast (pc := 52) d_Md_undo_52 rfl (by first | exact in_nI (by omega) (by omega) | (rw [e2, m24]; exact in_nI (by omega) (by omega))) ?_
    refine wh_iinc (pc := 53) (ls2 := [_, _]) d_Md_undo_53 rfl (nI_inc _) (by decide) rfl rfl ?_
    refine wh_goto (pc := 56) (tgt := 27) d_Md_undo_56 (by decide) ?_
    refine wh_eq (ih trivial) rfl rfl ?_
    rw [e2, m24, cl_nI (by omega), cl_nI (by omega)]
    exact fill_s _ _ _ _ (by rw [gI_fillN (by decide)]; rfl)
  · rfl
  · exact (fill_0 _ _ _).symm
theorem x_undo {l : Launch} {D : va_G} {base : Nat} : CMD l D base M_Lm_undo M_Md_undo [] := by
  intro h hr
  have hr0 := hr
  obtain ⟨n, m, r0, r1, ⟨na, ⟨ha, ra, rb⟩, rs⟩, r3, r4, r5, r6⟩ := hr
  match na, ha, ra, rb, rs with
  | 0, _, ra, rb, _ => exact SI.of (c_undoL ra) (SI.of (r_undoL rb) ⟨rfl, hr0.fm fm_thr⟩)
  | na + 1, ha, ra, rb, rs =>
    obtain ⟨r, hrr, q1, q2⟩ := r1.1 na (by omega)
    refine SI.of (c_undoY ra ha hrr q1 q2) (SI.of (r_undoY (na := na) (by rw [ld_out (by omega), gI_sN (by decide)]; exact rb) ha) ⟨rfl, ?_⟩)
    generalize hh1 : ldN (sI h 0 6 (nI na)) 2 r 5 6 3 = h1
    have o1 : ∀ c j, ¬ (c = 2 ∧ 8 ≤ j) → c ≠ 4 → c ≠ 6 → c ≠ 7 → ¬ (c = 0 ∧ j = 6) → gI h1 c j = gI h c j := fun c j z1 z2 z3 z4 z5 => by rw [← hh1, ld_out ⟨z1, z2, z3, z4⟩, gI_sI, if_neg z5]
    have e1 : h1.2 = h.2 := by rw [← hh1]; rfl
    generalize hh2 : fillA (sI (sI h1 42 0 0) 42 17 (nI na)) 48 (fun k => gI h1 50 (24 * na + k)) 24 = h2
    have o2 : ∀ c j, ¬ (c = 2 ∧ 8 ≤ j) → c ≠ 4 → c ≠ 6 → c ≠ 7 → ¬ (c = 0 ∧ j = 6) → c ≠ 48 → ¬ (c = 42 ∧ j = 17) → ¬ (c = 42 ∧ j = 0) → gI h2 c j = gI h c j := fun c j z1 z2 z3 z4 z5 z6 z7 z8 => by
      rw [← hh2, gI_fillN z6, gI_sI, if_neg z7, gI_sI, if_neg z8, o1 c j z1 z2 z3 z4 z5]
    have e2 : h2.2 = h.2 := by rw [← hh2]; exact e1
    have sn := rs na (by omega) r hrr
    have hn := r0.1.1
    have hm := r0.2.1.1
    have hnow : ∀ j, j < 19 → nowR h2 j = gI h r j := fun j hj => by
      have : nowR h2 j = nowR h1 j := now_ext (fun k => by rw [← hh2, gI_fillN (by decide), gI_sN (by decide), gI_sN (by decide)]) (fun k => by rw [← hh2, gI_fillN (by decide), gI_sN (by decide), gI_sN (by decide)]) (fun k => by rw [← hh2, gI_fillN (by decide), gI_sN (by decide), gI_sN (by decide)]) (fun k _ => by rw [← hh2, gI_fillN (by decide), gI_sN (by decide), gI_sN (by decide)])
      rw [this, ← hh1, ld_now (by omega) hj, gI_sN (by omega)]
    have hG : ∀ j, j < 24 → gI h2 48 j = gI h 50 (24 * na + j) := fun j hj => by
      rw [← hh2, gI_fillY hj, o1 50 _ (by omega) (by omega) (by omega) (by omega) (by omega)]
    obtain ⟨st, hp⟩ := back_rel r0 sn hnow hG (fun c j z => o2 c j (by omega) (by omega) (by omega) (by omega) (by omega) (by omega) (by omega) (by omega))
    have eR : ∀ x k, gR h2 x k = gR h x k := fun x k => by unfold gR; rw [e2]
    refine ⟨n, m, st, r1.same e2, ⟨na, ⟨by omega, ?_, ?_⟩, fun i hi r' hr' => ?_⟩, ?_, ?_, ?_, ?_⟩
    · rw [← hh2, gI_fillN (by decide), gI_sN (by decide), gI_sN (by decide), ← hh1, ld_out (by omega), gI_sS]
    · rw [← hh2, gI_fillN (by decide), gI_sS]
    · rw [eR] at hr'
      obtain ⟨r'', hr'', c1, c2⟩ := r1.1 i (by omega)
      have e3 : r' = r'' := Option.some.inj (hr'.symm.trans hr'')
      subst e3
      exact (rs i (by omega) r' hr').to (fun j _ => o2 r' j (by omega) (by omega) (by omega) (by omega) (by omega) (by omega) (by omega) (by omega)) (fun j _ => o2 50 _ (by omega) (by omega) (by omega) (by omega) (by omega) (by omega) (by omega) (by omega)) hp hn hm
    · exact r3.ag2 (fun c j z => o2 c j (by omega) (by omega) (by omega) (by omega) (by omega) (by omega) (by omega) (by omega)) hp hn hm
    · exact r4.ag (fun c j z => by unfold T_ct at z; exact o2 c j (by omega) (by omega) (by omega) (by omega) (by omega) (by omega) (by omega) (by omega))
    · exact r5.ag (fun c j z => by unfold T_tx at z; exact o2 c j (by omega) (by omega) (by omega) (by omega) (by omega) (by omega) (by omega) (by omega))
    · unfold gL; rw [e2]; exact r6
theorem c_keepU {l : Launch} {D : va_G} {base : Nat} {h : Hp} {w : Int32} (hz : w < 0 ∨ 2 ≤ w) : SD l D base M_Lm_keep [.ref 0, .int w] h (some (.int (-1))) h := by
  refine SP.of [some (.ref 0), some (.int w)] (by decide) rfl (Nat.le_of_ble_eq_true rfl) ?_
  by_cases h1 : w < 0
  · refine wh_iload_n (pc := 0) d_Lm_keep_0 rfl rfl ?_
    refine wh_if_lt (pc := 1) (tgt := 9) d_Lm_keep_1 (by decide) (fun c_1 => ?_) (fun c_1 => absurd h1 c_1)
    refine wh_iconst (pc := 9) (v := (-1)) d_Lm_keep_9 (by decide) ?_
    refine wh_iret (pc := 10) d_Lm_keep_10 rfl ?_
    exact ⟨rfl, rfl⟩
  · refine wh_iload_n (pc := 0) d_Lm_keep_0 rfl rfl ?_
    refine wh_if_lt (pc := 1) (tgt := 9) d_Lm_keep_1 (by decide) (fun c_1 => absurd c_1 h1) (fun c_1 => ?_)
    refine wh_iload_n (pc := 4) d_Lm_keep_4 rfl rfl ?_
    refine wh_iconst (pc := 5) (v := 2) d_Lm_keep_5 (by decide) ?_
    refine wh_icmp_lt (pc := 6) (tgt := 11) d_Lm_keep_6 (by decide) (fun c_6 => absurd c_6 (show ¬ w < 2 by have := hz.resolve_left h1; rw [i_lt]; rw [i_le] at this; omega)) (fun c_6 => ?_)
    refine wh_iconst (pc := 9) (v := (-1)) d_Lm_keep_9 (by decide) ?_
    refine wh_iret (pc := 10) d_Lm_keep_10 rfl ?_
    exact ⟨rfl, rfl⟩
theorem c_againU {l : Launch} {D : va_G} {base : Nat} {h : Hp} {w : Int32} (hz : w < 0 ∨ 2 ≤ w) : SD l D base M_Lm_again [.ref 0, .int w] h (some (.int (-1))) h := by
  refine SP.of [some (.ref 0), some (.int w)] (by decide) rfl (Nat.le_of_ble_eq_true rfl) ?_
  by_cases h1 : w < 0
  · refine wh_iload_n (pc := 0) d_Lm_again_0 rfl rfl ?_
    refine wh_if_lt (pc := 1) (tgt := 9) d_Lm_again_1 (by decide) (fun c_1 => ?_) (fun c_1 => absurd h1 c_1)
    refine wh_iconst (pc := 9) (v := (-1)) d_Lm_again_9 (by decide) ?_
    refine wh_iret (pc := 10) d_Lm_again_10 rfl ?_
    exact ⟨rfl, rfl⟩
  · refine wh_iload_n (pc := 0) d_Lm_again_0 rfl rfl ?_
    refine wh_if_lt (pc := 1) (tgt := 9) d_Lm_again_1 (by decide) (fun c_1 => absurd c_1 h1) (fun c_1 => ?_)
    refine wh_iload_n (pc := 4) d_Lm_again_4 rfl rfl ?_
    refine wh_iconst (pc := 5) (v := 2) d_Lm_again_5 (by decide) ?_
    refine wh_icmp_lt (pc := 6) (tgt := 11) d_Lm_again_6 (by decide) (fun c_6 => absurd c_6 (show ¬ w < 2 by have := hz.resolve_left h1; rw [i_lt]; rw [i_le] at this; omega)) (fun c_6 => ?_)
    refine wh_iconst (pc := 9) (v := (-1)) d_Lm_again_9 (by decide) ?_
    refine wh_iret (pc := 10) d_Lm_again_10 rfl ?_
    exact ⟨rfl, rfl⟩
theorem c_keepY {l : Launch} {D : va_G} {base : Nat} {h : Hp} {s : Nat} (hs : s < 2) (hR : Rows h) : SD l D base M_Lm_keep [.ref 0, .int (nI s)] h (some (.int (gI h 2 10))) (sI (svN h 2 (35 + s) 5 6 3) 37 s 1) := by
  refine SP.of [some (.ref 0), some (.int (nI s))] (by decide) rfl (Nat.le_of_ble_eq_true rfl) ?_
  have hrs : gR h 34 s = some (35 + s) := by rcases (show s = 0 ∨ s = 1 by omega) with rfl | rfl; exact hR.2.2.1; exact hR.2.2.2
  have hsh : SH[35 + s]? = some (.inl (0, 19)) := (by rcases (show s = 0 ∨ s = 1 by omega) with rfl | rfl <;> rfl)
  refine wh_iload_n (pc := 0) d_Lm_keep_0 rfl rfl ?_
  refine wh_if_lt (pc := 1) (tgt := 9) d_Lm_keep_1 (by decide) (fun c_1 => absurd c_1 (nI_pos (by omega))) (fun c_1 => ?_)
  refine wh_iload_n (pc := 4) d_Lm_keep_4 rfl rfl ?_
  refine wh_iconst (pc := 5) (v := 2) d_Lm_keep_5 (by decide) ?_
  refine wh_icmp_lt (pc := 6) (tgt := 11) d_Lm_keep_6 (by decide) (fun c_6 => ?_) (fun c_6 => absurd (nI_lt hs (by decide)) c_6)
  refine wh_aload_n (pc := 11) d_Lm_keep_11 rfl rfl ?_
  refine gf_Lm_20 (pc := 12) rfl d_Lm_keep_12 ?_
  refine wh_aload_n (pc := 15) d_Lm_keep_15 rfl rfl ?_
  refine gf_Lm_42 (pc := 16) rfl d_Lm_keep_16 ?_
  refine wh_iload_n (pc := 19) d_Lm_keep_19 rfl rfl ?_
  refine wh_aald (pc := 20) d_Lm_keep_20 rfl (in_nI hs (by decide)) (show gR h 34 (nI s).toNatClampNeg = some (35 + s) by rw [cl_nI (by omega)]; exact hrs) ?_
  refine cv_Lm_230_d (pc := 21) (Or.inl rfl) rfl d_Lm_keep_21 ⟨⟨by decide, by decide⟩, rfl, rfl⟩ (s_save (Or.inl rfl) hsh (by omega)) (Nat.le_of_ble_eq_true rfl) ?_
  refine wh_aload_n (pc := 24) d_Lm_keep_24 rfl rfl ?_
  refine gf_Lm_45 (pc := 25) rfl d_Lm_keep_25 ?_
  refine wh_iload_n (pc := 28) d_Lm_keep_28 rfl rfl ?_
  refine wh_iconst (pc := 29) (v := 1) d_Lm_keep_29 (by decide) ?_
  refine wh_bast (pc := 30) d_Lm_keep_30 rfl (in_nI (by omega) (by omega)) (by decide) ?_
  refine wh_aload_n (pc := 31) d_Lm_keep_31 rfl rfl ?_
  refine gf_Lm_20 (pc := 32) rfl d_Lm_keep_32 ?_
  refine gf_Lm_88 (pc := 35) (Or.inl rfl) rfl d_Lm_keep_35 ?_
  refine wh_iret (pc := 38) d_Lm_keep_38 rfl ?_
  refine ⟨?_, ?_⟩
  · rw [cl_nI (by omega)]
  · rw [gI_sN (by decide), sv_out (by omega)]
theorem c_againL {l : Launch} {D : va_G} {base : Nat} {h : Hp} {s : Nat} (hs : s < 2) (hR : Rows h) (h0 : gI h 37 s = 0) : SD l D base M_Lm_again [.ref 0, .int (nI s)] h (some (.int (-3))) h := by
  refine SP.of [some (.ref 0), some (.int (nI s))] (by decide) rfl (Nat.le_of_ble_eq_true rfl) ?_
  refine wh_iload_n (pc := 0) d_Lm_again_0 rfl rfl ?_
  refine wh_if_lt (pc := 1) (tgt := 9) d_Lm_again_1 (by decide) (fun c_1 => absurd c_1 (nI_pos (by omega))) (fun c_1 => ?_)
  refine wh_iload_n (pc := 4) d_Lm_again_4 rfl rfl ?_
  refine wh_iconst (pc := 5) (v := 2) d_Lm_again_5 (by decide) ?_
  refine wh_icmp_lt (pc := 6) (tgt := 11) d_Lm_again_6 (by decide) (fun c_6 => ?_) (fun c_6 => absurd (nI_lt hs (by decide)) c_6)
  refine wh_aload_n (pc := 11) d_Lm_again_11 rfl rfl ?_
  refine gf_Lm_45 (pc := 12) rfl d_Lm_again_12 ?_
  refine wh_iload_n (pc := 15) d_Lm_again_15 rfl rfl ?_
  refine wh_bald (pc := 16) d_Lm_again_16 rfl (in_nI (by omega) (by omega)) ?_
  refine wh_if_ne (pc := 17) (tgt := 23) d_Lm_again_17 (by decide) (fun c_17 => absurd (by rw [cl_nI (by omega)]; exact h0) c_17) (fun c_17 => ?_)
  refine wh_bipush (pc := 20) (v := (-3)) d_Lm_again_20 (by decide) ?_
  refine wh_iret (pc := 22) d_Lm_again_22 rfl ?_
  exact ⟨rfl, rfl⟩
theorem c_againY {l : Launch} {D : va_G} {base : Nat} {h : Hp} {s : Nat} (hs : s < 2) (hR : Rows h) (h0 : ¬ gI h 37 s = 0) : SD l D base M_Lm_again [.ref 0, .int (nI s)] h (some (.int (gI h (35 + s) 18))) (sI (ldN h 2 (35 + s) 5 6 3) 0 6 0) := by
  refine SP.of [some (.ref 0), some (.int (nI s))] (by decide) rfl (Nat.le_of_ble_eq_true rfl) ?_
  have hrs : gR h 34 s = some (35 + s) := by rcases (show s = 0 ∨ s = 1 by omega) with rfl | rfl; exact hR.2.2.1; exact hR.2.2.2
  have hsh : SH[35 + s]? = some (.inl (0, 19)) := (by rcases (show s = 0 ∨ s = 1 by omega) with rfl | rfl <;> rfl)
  refine wh_iload_n (pc := 0) d_Lm_again_0 rfl rfl ?_
  refine wh_if_lt (pc := 1) (tgt := 9) d_Lm_again_1 (by decide) (fun c_1 => absurd c_1 (nI_pos (by omega))) (fun c_1 => ?_)
  refine wh_iload_n (pc := 4) d_Lm_again_4 rfl rfl ?_
  refine wh_iconst (pc := 5) (v := 2) d_Lm_again_5 (by decide) ?_
  refine wh_icmp_lt (pc := 6) (tgt := 11) d_Lm_again_6 (by decide) (fun c_6 => ?_) (fun c_6 => absurd (nI_lt hs (by decide)) c_6)
  refine wh_aload_n (pc := 11) d_Lm_again_11 rfl rfl ?_
  refine gf_Lm_45 (pc := 12) rfl d_Lm_again_12 ?_
  refine wh_iload_n (pc := 15) d_Lm_again_15 rfl rfl ?_
  refine wh_bald (pc := 16) d_Lm_again_16 rfl (in_nI (by omega) (by omega)) ?_
  refine wh_if_ne (pc := 17) (tgt := 23) d_Lm_again_17 (by decide) (fun c_17 => ?_) (fun c_17 => absurd c_17 (by rw [cl_nI (by omega)]; exact h0))
  refine wh_aload_n (pc := 23) d_Lm_again_23 rfl rfl ?_
  refine gf_Lm_20 (pc := 24) rfl d_Lm_again_24 ?_
  refine wh_aload_n (pc := 27) d_Lm_again_27 rfl rfl ?_
  refine gf_Lm_42 (pc := 28) rfl d_Lm_again_28 ?_
  refine wh_iload_n (pc := 31) d_Lm_again_31 rfl rfl ?_
  refine wh_aald (pc := 32) d_Lm_again_32 rfl (in_nI hs (by decide)) (show gR h 34 (nI s).toNatClampNeg = some (35 + s) by rw [cl_nI (by omega)]; exact hrs) ?_
  refine cv_Lm_161_d (pc := 33) (Or.inl rfl) rfl d_Lm_again_33 ⟨⟨by decide, by decide⟩, rfl, rfl⟩ (s_load (Or.inl rfl) hsh (by omega)) (Nat.le_of_ble_eq_true rfl) ?_
  refine wh_aload_n (pc := 36) d_Lm_again_36 rfl rfl ?_
  refine wh_iconst (pc := 37) (v := 0) d_Lm_again_37 (by decide) ?_
  refine pf_Lm_39 (pc := 38) rfl d_Lm_again_38 ?_
  refine wh_aload_n (pc := 41) d_Lm_again_41 rfl rfl ?_
  refine gf_Lm_20 (pc := 42) rfl d_Lm_again_42 ?_
  refine gf_Lm_88 (pc := 45) (Or.inl rfl) rfl d_Lm_again_45 ?_
  refine wh_iret (pc := 48) d_Lm_again_48 rfl ?_
  refine ⟨rfl, ?_⟩
  rw [gI_sN (by decide)]
  exact congrArg (fun x => some (Value.int x)) (ld_now (j := 18) (by omega) (by decide))
theorem r_keepU {l : Launch} {D : va_G} {base : Nat} {h : Hp} {w : Int32} (hz : w < 0 ∨ 1 < w) : SD l D base M_Md_keep [.ref 42, .int w] h (some (.int (-1))) (sI h 42 0 0) := by
  refine SP.of [some (.ref 42), some (.int w), none] (by decide) rfl (Nat.le_of_ble_eq_true rfl) ?_
  refine wh_aload_n (pc := 0) d_Md_keep_0 rfl rfl ?_
  refine wh_iconst (pc := 1) (v := 0) d_Md_keep_1 (by decide) ?_
  refine pf_Md_62 (pc := 2) rfl d_Md_keep_2 ?_
  refine wh_iload_n (pc := 5) d_Md_keep_5 rfl rfl ?_
  refine wh_i2l (pc := 6) d_Md_keep_6 ?_
  refine wh_lconst (pc := 7) (v := 0) d_Md_keep_7 (by decide) ?_
  refine wh_lconst (pc := 8) (v := 1) d_Md_keep_8 (by decide) ?_
  refine cs_Md_69_d (pc := 9) rfl d_Md_keep_9 ⟨⟨by decide, by decide⟩, rfl, rfl⟩ (m_in) (Nat.le_of_ble_eq_true rfl) ?_
  refine wh_if_ne (pc := 12) (tgt := 17) d_Md_keep_12 (by decide) (fun c_12 => absurd ((inL w 0 1 rfl rfl).mpr hz) c_12) (fun c_12 => ?_)
  refine wh_iconst (pc := 15) (v := (-1)) d_Md_keep_15 (by decide) ?_
  refine wh_iret (pc := 16) d_Md_keep_16 rfl ?_
  exact ⟨rfl, rfl⟩
theorem r_againU {l : Launch} {D : va_G} {base : Nat} {h : Hp} {w : Int32} (hz : w < 0 ∨ 1 < w) : SD l D base M_Md_again [.ref 42, .int w] h (some (.int (-1))) (sI h 42 0 0) := by
  refine SP.of [some (.ref 42), some (.int w), none] (by decide) rfl (Nat.le_of_ble_eq_true rfl) ?_
  refine wh_aload_n (pc := 0) d_Md_again_0 rfl rfl ?_
  refine wh_iconst (pc := 1) (v := 0) d_Md_again_1 (by decide) ?_
  refine pf_Md_62 (pc := 2) rfl d_Md_again_2 ?_
  refine wh_iload_n (pc := 5) d_Md_again_5 rfl rfl ?_
  refine wh_i2l (pc := 6) d_Md_again_6 ?_
  refine wh_lconst (pc := 7) (v := 0) d_Md_again_7 (by decide) ?_
  refine wh_lconst (pc := 8) (v := 1) d_Md_again_8 (by decide) ?_
  refine cs_Md_69_d (pc := 9) rfl d_Md_again_9 ⟨⟨by decide, by decide⟩, rfl, rfl⟩ (m_in) (Nat.le_of_ble_eq_true rfl) ?_
  refine wh_if_ne (pc := 12) (tgt := 17) d_Md_again_12 (by decide) (fun c_12 => absurd ((inL w 0 1 rfl rfl).mpr hz) c_12) (fun c_12 => ?_)
  refine wh_iconst (pc := 15) (v := (-1)) d_Md_again_15 (by decide) ?_
  refine wh_iret (pc := 16) d_Md_again_16 rfl ?_
  exact ⟨rfl, rfl⟩
theorem m24b (a k : Nat) : (24 : Int32) * nI a + nI k = nI (24 * a + k) := m24 a k
theorem r_keepY {l : Launch} {D : va_G} {base : Nat} {h : Hp} {s : Nat} (hs : s < 2) : SD l D base M_Md_keep [.ref 42, .int (nI s)] h (some (.int (gI h 48 18))) (fillO (sI (sI h 42 0 0) 52 s 1) 51 (24 * s) (fun k => gI h 48 k) 24) := by
  refine SP.of [some (.ref 42), some (.int (nI s)), none] (by decide) rfl (Nat.le_of_ble_eq_true rfl) ?_
  refine wh_aload_n (pc := 0) d_Md_keep_0 rfl rfl ?_
  refine wh_iconst (pc := 1) (v := 0) d_Md_keep_1 (by decide) ?_
  refine pf_Md_62 (pc := 2) rfl d_Md_keep_2 ?_
  refine wh_iload_n (pc := 5) d_Md_keep_5 rfl rfl ?_
  refine wh_i2l (pc := 6) d_Md_keep_6 ?_
  refine wh_lconst (pc := 7) (v := 0) d_Md_keep_7 (by decide) ?_
  refine wh_lconst (pc := 8) (v := 1) d_Md_keep_8 (by decide) ?_
  refine cs_Md_69_d (pc := 9) rfl d_Md_keep_9 ⟨⟨by decide, by decide⟩, rfl, rfl⟩ (m_in) (Nat.le_of_ble_eq_true rfl) ?_
  refine wh_if_ne (pc := 12) (tgt := 17) d_Md_keep_12 (by decide) (fun c_12 => ?_) (fun c_12 => absurd c_12 (fun z => ((inL (nI s) 0 1 rfl rfl).mp z).elim (nI_pos (by omega)) (nI_nlt (show s ≤ 1 by omega) (by decide))))
  refine wh_aload_n (pc := 17) d_Md_keep_17 rfl rfl ?_
  refine gf_Md_37 (pc := 18) rfl d_Md_keep_18 ?_
  refine wh_iload_n (pc := 21) d_Md_keep_21 rfl rfl ?_
  refine wh_iconst (pc := 22) (v := 1) d_Md_keep_22 (by decide) ?_
  refine wh_bast (pc := 23) d_Md_keep_23 rfl (by first | exact in_nI (by omega) (by omega) | (simp only [a0, a5, a10, a19]; exact in_nI (by omega) (by omega)) | exact vp_in_iff.mpr (by decide)) (by decide) ?_
  rw [cl_nI (show s < 2 ^ 31 by omega)]
  refine wh_iconst (pc := 24) (v := 0) d_Md_keep_24 (by decide) ?_
  refine wh_istore_n (pc := 25) (ls2 := [_, _, _]) d_Md_keep_25 rfl (by decide) rfl rfl ?_
  refine wh_eq (wh_loop 24 (fun i => [some (.ref 42), some (.int (nI s)), some (.int (nI i))]) (fun i => fillO (sI (sI h 42 0 0) 52 s 1) 51 (24 * s) (fun k => gI h 48 k) i) (fun _ => True) ?_ ?_ 0 (Nat.zero_le _) trivial) rfl rfl (fo_0 _ _ _ _).symm
  · intro _
    refine wh_iload_n (pc := 26) d_Md_keep_26 rfl rfl ?_
    refine wh_bipush (pc := 27) (v := 24) d_Md_keep_27 (by decide) ?_
    refine wh_icmp_ge (pc := 29) (tgt := 55) d_Md_keep_29 (by decide) (fun c_29 => ?_) (fun c_29 => absurd (by decide) c_29)
    refine wh_aload_n (pc := 55) d_Md_keep_55 rfl rfl ?_
    refine gf_Md_25 (pc := 56) rfl d_Md_keep_56 ?_
    refine wh_bipush (pc := 59) (v := 18) d_Md_keep_59 (by decide) ?_
    refine wh_iald (pc := 61) d_Md_keep_61 rfl (by first | exact in_nI (by omega) (by omega) | (simp only [a0, a5, a10, a19]; exact in_nI (by omega) (by omega)) | exact vp_in_iff.mpr (by decide)) ?_
    refine wh_iret (pc := 62) d_Md_keep_62 rfl ?_
    refine ⟨rfl, ?_⟩
    rw [fo_N (by decide)]
    rfl
  · intro i hi _ ih
    refine wh_iload_n (pc := 26) d_Md_keep_26 rfl rfl ?_
    refine wh_bipush (pc := 27) (v := 24) d_Md_keep_27 (by decide) ?_
    refine wh_icmp_ge (pc := 29) (tgt := 55) d_Md_keep_29 (by decide) (fun c_29 => absurd c_29 (nI_ge hi (by decide))) (fun c_29 => ?_)
    refine wh_aload_n (pc := 32) d_Md_keep_32 rfl rfl ?_
    refine gf_Md_34 (pc := 33) rfl d_Md_keep_33 ?_
    refine wh_bipush (pc := 36) (v := 24) d_Md_keep_36 (by decide) ?_
    refine wh_iload_n (pc := 38) d_Md_keep_38 rfl rfl ?_
    refine wh_imul (pc := 39) d_Md_keep_39 ?_
    refine wh_iload_n (pc := 40) d_Md_keep_40 rfl rfl ?_
    refine wh_iadd (pc := 41) d_Md_keep_41 ?_
    refine wh_aload_n (pc := 42) d_Md_keep_42 rfl rfl ?_
    refine gf_Md_25 (pc := 43) rfl d_Md_keep_43 ?_
    refine wh_iload_n (pc := 46) d_Md_keep_46 rfl rfl ?_
    refine wh_iald (pc := 47) d_Md_keep_47 rfl (by first | exact in_nI (by omega) (by omega) | (rw [m24]; exact in_nI (by omega) (by omega))) ?_
    refine wh_iast (pc := 48) d_Md_keep_48 rfl (by first | exact in_nI (by omega) (by omega) | (rw [m24]; exact in_nI (by omega) (by omega))) ?_
    refine wh_iinc (pc := 49) (ls2 := [_, _, _]) d_Md_keep_49 rfl (nI_inc _) (by decide) rfl rfl ?_
    refine wh_goto (pc := 52) (tgt := 26) d_Md_keep_52 (by decide) ?_
    refine wh_eq (ih trivial) rfl rfl ?_
    rw [m24, cl_nI (by omega), cl_nI (by omega)]
    exact fo_s _ _ _ _ _ (by rw [fo_N (by decide)]; rfl)
theorem r_againL {l : Launch} {D : va_G} {base : Nat} {h : Hp} {s : Nat} (hs : s < 2) (h0 : gI h 52 s = 0) : SD l D base M_Md_again [.ref 42, .int (nI s)] h (some (.int (-3))) (sI h 42 0 0) := by
  refine SP.of [some (.ref 42), some (.int (nI s)), none] (by decide) rfl (Nat.le_of_ble_eq_true rfl) ?_
  refine wh_aload_n (pc := 0) d_Md_again_0 rfl rfl ?_
  refine wh_iconst (pc := 1) (v := 0) d_Md_again_1 (by decide) ?_
  refine pf_Md_62 (pc := 2) rfl d_Md_again_2 ?_
  refine wh_iload_n (pc := 5) d_Md_again_5 rfl rfl ?_
  refine wh_i2l (pc := 6) d_Md_again_6 ?_
  refine wh_lconst (pc := 7) (v := 0) d_Md_again_7 (by decide) ?_
  refine wh_lconst (pc := 8) (v := 1) d_Md_again_8 (by decide) ?_
  refine cs_Md_69_d (pc := 9) rfl d_Md_again_9 ⟨⟨by decide, by decide⟩, rfl, rfl⟩ (m_in) (Nat.le_of_ble_eq_true rfl) ?_
  refine wh_if_ne (pc := 12) (tgt := 17) d_Md_again_12 (by decide) (fun c_12 => ?_) (fun c_12 => absurd c_12 (fun z => ((inL (nI s) 0 1 rfl rfl).mp z).elim (nI_pos (by omega)) (nI_nlt (show s ≤ 1 by omega) (by decide))))
  refine wh_aload_n (pc := 17) d_Md_again_17 rfl rfl ?_
  refine gf_Md_37 (pc := 18) rfl d_Md_again_18 ?_
  refine wh_iload_n (pc := 21) d_Md_again_21 rfl rfl ?_
  refine wh_bald (pc := 22) d_Md_again_22 rfl (by first | exact in_nI (by omega) (by omega) | (simp only [a0, a5, a10, a19]; exact in_nI (by omega) (by omega)) | exact vp_in_iff.mpr (by decide)) ?_
  refine wh_if_ne (pc := 23) (tgt := 29) d_Md_again_23 (by decide) (fun c_23 => absurd (by rw [cl_nI (by omega), gI_sN (by decide)]; exact h0) c_23) (fun c_23 => ?_)
  refine wh_bipush (pc := 26) (v := (-3)) d_Md_again_26 (by decide) ?_
  refine wh_iret (pc := 28) d_Md_again_28 rfl ?_
  exact ⟨rfl, rfl⟩
theorem r_againY {l : Launch} {D : va_G} {base : Nat} {h : Hp} {s : Nat} (hs : s < 2) (h0 : ¬ gI h 52 s = 0) : SD l D base M_Md_again [.ref 42, .int (nI s)] h (some (.int (gI h 51 (24 * s + 18)))) (sI (fillA (sI h 42 0 0) 48 (fun k => gI h 51 (24 * s + k)) 24) 42 17 0) := by
  refine SP.of [some (.ref 42), some (.int (nI s)), none] (by decide) rfl (Nat.le_of_ble_eq_true rfl) ?_
  refine wh_aload_n (pc := 0) d_Md_again_0 rfl rfl ?_
  refine wh_iconst (pc := 1) (v := 0) d_Md_again_1 (by decide) ?_
  refine pf_Md_62 (pc := 2) rfl d_Md_again_2 ?_
  refine wh_iload_n (pc := 5) d_Md_again_5 rfl rfl ?_
  refine wh_i2l (pc := 6) d_Md_again_6 ?_
  refine wh_lconst (pc := 7) (v := 0) d_Md_again_7 (by decide) ?_
  refine wh_lconst (pc := 8) (v := 1) d_Md_again_8 (by decide) ?_
  refine cs_Md_69_d (pc := 9) rfl d_Md_again_9 ⟨⟨by decide, by decide⟩, rfl, rfl⟩ (m_in) (Nat.le_of_ble_eq_true rfl) ?_
  refine wh_if_ne (pc := 12) (tgt := 17) d_Md_again_12 (by decide) (fun c_12 => ?_) (fun c_12 => absurd c_12 (fun z => ((inL (nI s) 0 1 rfl rfl).mp z).elim (nI_pos (by omega)) (nI_nlt (show s ≤ 1 by omega) (by decide))))
  refine wh_aload_n (pc := 17) d_Md_again_17 rfl rfl ?_
  refine gf_Md_37 (pc := 18) rfl d_Md_again_18 ?_
  refine wh_iload_n (pc := 21) d_Md_again_21 rfl rfl ?_
  refine wh_bald (pc := 22) d_Md_again_22 rfl (by first | exact in_nI (by omega) (by omega) | (simp only [a0, a5, a10, a19]; exact in_nI (by omega) (by omega)) | exact vp_in_iff.mpr (by decide)) ?_
  refine wh_if_ne (pc := 23) (tgt := 29) d_Md_again_23 (by decide) (fun c_23 => ?_) (fun c_23 => absurd c_23 (by rw [cl_nI (by omega), gI_sN (by decide)]; exact h0))
  refine wh_iconst (pc := 29) (v := 0) d_Md_again_29 (by decide) ?_
  refine wh_istore_n (pc := 30) (ls2 := [_, _, _]) d_Md_again_30 rfl (by decide) rfl rfl ?_
  refine wh_eq (wh_loop 24 (fun i => [some (.ref 42), some (.int (nI s)), some (.int (nI i))]) (fun i => fillA (sI h 42 0 0) 48 (fun k => gI h 51 (24 * s + k)) i) (fun _ => True) ?_ ?_ 0 (Nat.zero_le _) trivial) rfl rfl (fill_0 _ _ _).symm
  · intro _
    refine wh_iload_n (pc := 31) d_Md_again_31 rfl rfl ?_
    refine wh_bipush (pc := 32) (v := 24) d_Md_again_32 (by decide) ?_
    refine wh_icmp_ge (pc := 34) (tgt := 60) d_Md_again_34 (by decide) (fun c_34 => ?_) (fun c_34 => absurd (by decide) c_34)
    refine wh_aload_n (pc := 60) d_Md_again_60 rfl rfl ?_
    refine wh_iconst (pc := 61) (v := 0) d_Md_again_61 (by decide) ?_
    refine pf_Md_119 (pc := 62) rfl d_Md_again_62 ?_
    refine wh_aload_n (pc := 65) d_Md_again_65 rfl rfl ?_
    refine gf_Md_25 (pc := 66) rfl d_Md_again_66 ?_
    refine wh_bipush (pc := 69) (v := 18) d_Md_again_69 (by decide) ?_
    refine wh_iald (pc := 71) d_Md_again_71 rfl (by first | exact in_nI (by omega) (by omega) | (simp only [a0, a5, a10, a19]; exact in_nI (by omega) (by omega)) | exact vp_in_iff.mpr (by decide)) ?_
    refine wh_iret (pc := 72) d_Md_again_72 rfl ?_
    refine ⟨rfl, ?_⟩
    rw [gI_sN (by decide)]
    exact congrArg (fun x => some (Value.int x)) (gI_fillY (j := 18) (by decide))
  · intro i hi _ ih
    refine wh_iload_n (pc := 31) d_Md_again_31 rfl rfl ?_
    refine wh_bipush (pc := 32) (v := 24) d_Md_again_32 (by decide) ?_
    refine wh_icmp_ge (pc := 34) (tgt := 60) d_Md_again_34 (by decide) (fun c_34 => absurd c_34 (nI_ge hi (by decide))) (fun c_34 => ?_)
    refine wh_aload_n (pc := 37) d_Md_again_37 rfl rfl ?_
    refine gf_Md_25 (pc := 38) rfl d_Md_again_38 ?_
    refine wh_iload_n (pc := 41) d_Md_again_41 rfl rfl ?_
    refine wh_aload_n (pc := 42) d_Md_again_42 rfl rfl ?_
    refine gf_Md_34 (pc := 43) rfl d_Md_again_43 ?_
    refine wh_bipush (pc := 46) (v := 24) d_Md_again_46 (by decide) ?_
    refine wh_iload_n (pc := 48) d_Md_again_48 rfl rfl ?_
    refine wh_imul (pc := 49) d_Md_again_49 ?_
    refine wh_iload_n (pc := 50) d_Md_again_50 rfl rfl ?_
    refine wh_iadd (pc := 51) d_Md_again_51 ?_
    refine wh_iald (pc := 52) d_Md_again_52 rfl (by first | exact in_nI (by omega) (by omega) | (rw [m24]; exact in_nI (by omega) (by omega))) ?_
    refine wh_iast (pc := 53) d_Md_again_53 rfl (by first | exact in_nI (by omega) (by omega) | (rw [m24]; exact in_nI (by omega) (by omega))) ?_
    refine wh_iinc (pc := 54) (ls2 := [_, _, _]) d_Md_again_54 rfl (nI_inc _) (by decide) rfl rfl ?_
    refine wh_goto (pc := 57) (tgt := 31) d_Md_again_57 (by decide) ?_
    refine wh_eq (ih trivial) rfl rfl ?_
    rw [m24, cl_nI (by omega), cl_nI (by omega)]
    exact fill_s _ _ _ _ (by rw [gI_fillN (by decide)]; rfl)
theorem slot_two (w : Int32) : (w < 0 ∨ 2 ≤ w) ∧ (w < 0 ∨ 1 < w) ∨ ∃ s, s < 2 ∧ w = nI s := by
  by_cases h1 : w < 0 ∨ 2 ≤ w
  · refine Or.inl ⟨h1, h1.imp id (fun z => ?_)⟩
    rw [i_le, show (2 : Int32).toInt = 2 from rfl] at z
    rw [i_lt, i_1]; omega
  · refine Or.inr ?_
    have h2 : ¬ w < 0 := fun z => h1 (Or.inl z)
    have h3 : ¬ 2 ≤ w := fun z => h1 (Or.inr z)
    exact vp_in_of (in_of (n := 2) (by decide) h2 h3) (by decide)
theorem x_keep {l : Launch} {D : va_G} {base : Nat} (w : Int32) : CMD l D base M_Lm_keep M_Md_keep [.int w] := by
  intro h hr
  rcases slot_two w with ⟨hz, hz2⟩ | ⟨s, hs, rfl⟩
  · exact SI.of (c_keepU hz) (SI.of (r_keepU hz2) ⟨rfl, hr.fm fm_thr⟩)
  · have hw := hr.w
    obtain ⟨n, m, r0, r1, r2, r3, r4, r5, r6⟩ := hr
    have hn := r0.1.1
    have hm := r0.2.1.1
    have o1 : ∀ c j, c ≠ 35 + s → ¬ (c = 37 ∧ j = s) → gI (sI (svN h 2 (35 + s) 5 6 3) 37 s 1) c j = gI h c j := fun c j z1 z2 => by rw [gI_sI, if_neg z2, sv_out z1]
    refine SI.of (c_keepY hs r1) (SI.of (r_keepY hs) ⟨by rw [o1 48 18 (by omega) (by omega)]; exact hw.2.2.2.2.1, ?_⟩)
    generalize hh1 : sI (svN h 2 (35 + s) 5 6 3) 37 s 1 = h1 at o1
    generalize hh2 : fillO (sI (sI h1 42 0 0) 52 s 1) 51 (24 * s) (fun k => gI h1 48 k) 24 = h2
    have o2 : ∀ c j, c ≠ 35 + s → ¬ (c = 37 ∧ j = s) → ¬ (c = 51 ∧ 24 * s ≤ j ∧ j < 24 * s + 24) → ¬ (c = 52 ∧ j = s) → ¬ (c = 42 ∧ j = 0) → gI h2 c j = gI h c j := fun c j z1 z2 z3 z4 z5 => by
      rw [← hh2, gI_fo, if_neg z3, gI_sI, if_neg z4, gI_sI, if_neg z5, o1 c j z1 z2]
    have e2 : h2.2 = h.2 := by rw [← hh2, ← hh1]; rfl
    have eR : ∀ i, gR h2 19 i = gR h 19 i := fun k => by unfold gR; rw [e2]
    refine ⟨n, m, r0.ag (fun c j z => by unfold T_st at z; exact o2 c j (by omega) (by omega) (by omega) (by omega) (by omega)), r1.same e2, r2.ag (fun c j z => by unfold T_ac at z; exact o2 c j (by omega) (by omega) (by omega) (by omega) (by omega)) eR r1 hn hm, fun t ht => ?_, r4.ag (fun c j z => by unfold T_ct at z; exact o2 c j (by omega) (by omega) (by omega) (by omega) (by omega)), r5.ag (fun c j z => by unfold T_tx at z; exact o2 c j (by omega) (by omega) (by omega) (by omega) (by omega)), by unfold gL; rw [e2]; exact r6⟩
    have hpl : ∀ k, k < n → plF h2 k = plF h k := fun k _ => o2 48 _ (by omega) (by omega) (by omega) (by omega) (by omega)
    by_cases e : t = s
    · subst e
      have ea : gI h2 37 t = 1 := by rw [← hh2, fo_N (by decide), gI_sN (by decide), gI_sN (by decide), ← hh1, gI_sS]
      have eb : gI h2 52 t = 1 := by rw [← hh2, fo_N (by decide), gI_sS]
      refine ⟨by rw [ea, eb], fun _ => r0.2.2.2.2.to (fun j hj => ?_) (fun j hj => ?_) hpl hn hm⟩
      · rw [← hh2, fo_N (by omega), gI_sN (by omega), gI_sN (by omega), ← hh1, gI_sN (by omega), sv_now hj]
      · show gI h2 51 (24 * t + j) = _
        rw [← hh2, fo_Y hj]; exact o1 48 j (by omega) (by omega)
    · obtain ⟨q1, q2⟩ := r3 t ht
      rw [o2 37 t (by omega) (by omega) (by omega) (by omega) (by omega), o2 52 t (by omega) (by omega) (by omega) (by omega) (by omega)]
      refine ⟨q1, fun z => (q2 z).to (fun j _ => o2 _ j (by omega) (by omega) (by omega) (by omega) (by omega)) (fun j hj => o2 51 _ (by omega) (by omega) (by omega) (by omega) (by omega)) hpl hn hm⟩
theorem x_again {l : Launch} {D : va_G} {base : Nat} (w : Int32) : CMD l D base M_Lm_again M_Md_again [.int w] := by
  intro h hr
  rcases slot_two w with ⟨hz, hz2⟩ | ⟨s, hs, rfl⟩
  · exact SI.of (c_againU hz) (SI.of (r_againU hz2) ⟨rfl, hr.fm fm_thr⟩)
  · have hr0 := hr
    obtain ⟨n, m, r0, r1, r2, r3, r4, r5, r6⟩ := hr
    have hn := r0.1.1
    have hm := r0.2.1.1
    obtain ⟨qa, qb⟩ := r3 s hs
    by_cases h0 : gI h 37 s = 0
    · exact SI.of (c_againL hs r1 h0) (SI.of (r_againL hs (by rw [← qa]; exact h0)) ⟨rfl, hr0.fm fm_thr⟩)
    · have sn := qb h0
      have o1 : ∀ c j, ¬ (c = 2 ∧ 8 ≤ j) → c ≠ 4 → c ≠ 6 → c ≠ 7 → ¬ (c = 0 ∧ j = 6) → gI (sI (ldN h 2 (35 + s) 5 6 3) 0 6 0) c j = gI h c j := fun c j z1 z2 z3 z4 z5 => by rw [gI_sI, if_neg z5, ld_out ⟨z1, z2, z3, z4⟩]
      refine SI.of (c_againY hs r1 h0) (SI.of (r_againY hs (by rw [o1 52 s (by omega) (by omega) (by omega) (by omega) (by omega), ← qa]; exact h0)) ⟨by rw [o1 51 _ (by omega) (by omega) (by omega) (by omega) (by omega)]; exact sn.2.2.2.2.2.symm, ?_⟩)
      have hnow1 : ∀ j, j < 19 → nowR (sI (ldN h 2 (35 + s) 5 6 3) 0 6 0) j = gI h (35 + s) j := fun j hj => by
        rw [← ld_now (h := h) (r := 35 + s) (by omega) hj]
        exact now_ext (fun k => gI_sN (by decide)) (fun k => gI_sN (by decide)) (fun k => gI_sN (by decide)) (fun k _ => gI_sN (by decide))
      have e1 : (sI (ldN h 2 (35 + s) 5 6 3) 0 6 0).2 = h.2 := rfl
      have e06 : gI (sI (ldN h 2 (35 + s) 5 6 3) 0 6 0) 0 6 = 0 := gI_sS _ _ _ _
      generalize sI (ldN h 2 (35 + s) 5 6 3) 0 6 0 = h1 at *
      generalize hh2 : sI (fillA (sI h1 42 0 0) 48 (fun k => gI h1 51 (24 * s + k)) 24) 42 17 0 = h2
      have o3 : ∀ c j, c ≠ 48 → c ≠ 42 → gI h2 c j = gI h1 c j := fun c j z1 z2 => by rw [← hh2, gI_sN z2, gI_fillN z1, gI_sN z2]
      have o2 : ∀ c j, ¬ (c = 2 ∧ 8 ≤ j) → c ≠ 4 → c ≠ 6 → c ≠ 7 → ¬ (c = 0 ∧ j = 6) → c ≠ 48 → ¬ (c = 42 ∧ j = 17) → ¬ (c = 42 ∧ j = 0) → gI h2 c j = gI h c j := fun c j z1 z2 z3 z4 z5 z6 z7 z8 => by
        rw [← hh2, gI_sI, if_neg z7, gI_fillN z6, gI_sI, if_neg z8, o1 c j z1 z2 z3 z4 z5]
      have e2 : h2.2 = h.2 := by rw [← hh2]; exact e1
      have hnow : ∀ j, j < 19 → nowR h2 j = gI h (35 + s) j := fun j hj => by
        rw [← hnow1 j hj]
        exact now_ext (fun k => o3 4 k (by decide) (by decide)) (fun k => o3 7 k (by decide) (by decide)) (fun k => o3 6 k (by decide) (by decide)) (fun k _ => o3 2 k (by decide) (by decide))
      have hG : ∀ j, j < 24 → gI h2 48 j = gI h 51 (24 * s + j) := fun j hj => by
        rw [← hh2, gI_sN (by decide), gI_fillY hj, o1 51 _ (by omega) (by omega) (by omega) (by omega) (by omega)]
      obtain ⟨st, hp⟩ := back_rel r0 sn hnow hG (fun c j z => o2 c j (by omega) (by omega) (by omega) (by omega) (by omega) (by omega) (by omega) (by omega))
      refine ⟨n, m, st, r1.same e2, ⟨0, ⟨by omega, ?_, ?_⟩, fun i hi => absurd hi (by omega)⟩, ?_, ?_, ?_, ?_⟩
      · rw [o3 0 6 (by decide) (by decide), e06]; rfl
      · rw [← hh2, gI_sS]; rfl
      · exact r3.ag2 (fun c j z => o2 c j (by omega) (by omega) (by omega) (by omega) (by omega) (by omega) (by omega) (by omega)) hp hn hm
      · exact r4.ag (fun c j z => by unfold T_ct at z; exact o2 c j (by omega) (by omega) (by omega) (by omega) (by omega) (by omega) (by omega) (by omega))
      · exact r5.ag (fun c j z => by unfold T_tx at z; exact o2 c j (by omega) (by omega) (by omega) (by omega) (by omega) (by omega) (by omega) (by omega))
      · unfold gL; rw [e2]; exact r6

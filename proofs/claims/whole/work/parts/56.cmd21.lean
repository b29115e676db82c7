theorem c_goY {l : Launch} {D : va_G} {base : Nat} {h : Hp} {v : Int32} : SD l D base M_Rd_goesOn [.ref 18, .int 1, .int v] h (some (.int 1)) (sI h 18 0 v) := by
  refine SP.of [some (.ref 18), some (.int 1), some (.int v)] (by decide) rfl (Nat.le_of_ble_eq_true rfl) ?_
  refine wh_iload_n (pc := 0) d_Rd_goesOn_0 rfl rfl ?_
  refine wh_if_eq (pc := 1) (tgt := 9) d_Rd_goesOn_1 (by decide) (fun c_1 => absurd c_1 (by decide)) (fun c_1 => ?_)
  refine wh_aload_n (pc := 4) d_Rd_goesOn_4 rfl rfl ?_
  refine wh_iload_n (pc := 5) d_Rd_goesOn_5 rfl rfl ?_
  refine pf_Rd_11 (pc := 6) rfl d_Rd_goesOn_6 ?_
  refine wh_iload_n (pc := 9) d_Rd_goesOn_9 rfl rfl ?_
  refine wh_zret (pc := 10) d_Rd_goesOn_10 rfl rfl ?_
  exact ⟨rfl, rfl⟩
theorem c_goN {l : Launch} {D : va_G} {base : Nat} {h : Hp} {v : Int32} : SD l D base M_Rd_goesOn [.ref 18, .int 0, .int v] h (some (.int 0)) h := by
  refine SP.of [some (.ref 18), some (.int 0), some (.int v)] (by decide) rfl (Nat.le_of_ble_eq_true rfl) ?_
  refine wh_iload_n (pc := 0) d_Rd_goesOn_0 rfl rfl ?_
  refine wh_if_eq (pc := 1) (tgt := 9) d_Rd_goesOn_1 (by decide) (fun c_1 => ?_) (fun c_1 => absurd rfl c_1)
  refine wh_iload_n (pc := 9) d_Rd_goesOn_9 rfl rfl ?_
  refine wh_zret (pc := 10) d_Rd_goesOn_10 rfl rfl ?_
  exact ⟨rfl, rfl⟩
theorem c_tf1 {l : Launch} {D : va_G} {base : Nat} {g : Hp} {n m : Nat} {T : St} (r : RC g 1 n m T) (w : WR (1, n, m, T)) {c : Int32} {q : Nat} (hq : q ≤ 9) (hc : c - 48 = nI q) : SI l D base M_Rd_takesFigure [.ref 18, .int (nI q), .ref 10] g (fun g' x => FC g g' ∧ ((∃ s' : RS, rdS 1 n m T c = some s' ∧ x = 1 ∧ RC g' s'.1 s'.2.1 s'.2.2.1 s'.2.2.2) ∨ (rdS 1 n m T c = none ∧ x = 0))) := by
  refine SP.of [some (.ref 18), some (.int (nI q)), some (.ref 10)] (by decide) rfl (Nat.le_of_ble_eq_true rfl) ?_
  have wo := w
  obtain ⟨w1, w2, w3, w4, w5, w6, w7, w8, w9⟩ := w
  simp only at w1 w2 w3 w4 w5 w6 w7 w8 w9
  have ro := r
  obtain ⟨r1, r2, r3, r4, r5, r6, r7, r8, r9, r10⟩ := r
  by_cases q2 : q ≤ 2
  · have hg : rg (nI q) 0 2 = 1 := rg_yes (fun z => z.elim (nI_pos (by omega)) (nI_nlt (a := 2) q2 (by decide)))
    refine wh_aload_n (pc := 0) d_Rd_takesFigure_0 rfl rfl ?_
    refine gf_Rd_11 (pc := 1) rfl d_Rd_takesFigure_1 ?_
    rw [r1]
    refine wh_tabIn (pc := 4) (tgt := 52) d_Rd_takesFigure_4 (by decide) (by decide) rfl (by decide) ?_
    refine wh_aload_n (pc := 52) d_Rd_takesFigure_52 rfl rfl ?_
    refine wh_iload_n (pc := 53) d_Rd_takesFigure_53 rfl rfl ?_
    refine pf_Rd_43 (pc := 54) (Or.inr rfl) rfl d_Rd_takesFigure_54 ?_
    refine wh_aload_n (pc := 57) d_Rd_takesFigure_57 rfl rfl ?_
    refine wh_iload_n (pc := 58) d_Rd_takesFigure_58 rfl rfl ?_
    refine cs_Rd_46_d (pc := 59) rfl d_Rd_takesFigure_59 ⟨⟨by decide, by decide⟩, rfl, rfl⟩ (s_isWind) (Nat.le_of_ble_eq_true rfl) ?_
    refine wh_iconst (pc := 62) (v := 2) d_Rd_takesFigure_62 (by decide) ?_
    rw [hg]
    refine cv_Rd_26_d (pc := 63) rfl d_Rd_takesFigure_63 ⟨⟨by decide, by decide⟩, rfl, rfl⟩ (c_goY) (Nat.le_of_ble_eq_true rfl) ?_
    refine wh_zret (pc := 66) d_Rd_takesFigure_66 rfl rfl ?_
    refine ⟨_, rfl, ((fc_sI (by unfold scC; omega)).tr (fc_sI (by unfold scC; omega))), Or.inl ⟨_, (show rdS 1 n m T c = _ by show (if fgB c 2 then _ else _) = _; rw [fgB_t ((fg_iff (by decide) hq hc).mpr (by omega))]; rfl), rfl, ?_⟩⟩
    refine ⟨gI_sS _ _ _ _, ?_, ?_, ?_, ?_, ?_, ?_, ?_, ?_, ?_⟩ <;> simp only [gI_sI, setS] <;> grind
  · have hg : rg (nI q) 0 2 = 0 := rg_no (Or.inr (nI_lt (a := 2) (by omega) (by omega)))
    refine wh_aload_n (pc := 0) d_Rd_takesFigure_0 rfl rfl ?_
    refine gf_Rd_11 (pc := 1) rfl d_Rd_takesFigure_1 ?_
    rw [r1]
    refine wh_tabIn (pc := 4) (tgt := 52) d_Rd_takesFigure_4 (by decide) (by decide) rfl (by decide) ?_
    refine wh_aload_n (pc := 52) d_Rd_takesFigure_52 rfl rfl ?_
    refine wh_iload_n (pc := 53) d_Rd_takesFigure_53 rfl rfl ?_
    refine pf_Rd_43 (pc := 54) (Or.inr rfl) rfl d_Rd_takesFigure_54 ?_
    refine wh_aload_n (pc := 57) d_Rd_takesFigure_57 rfl rfl ?_
    refine wh_iload_n (pc := 58) d_Rd_takesFigure_58 rfl rfl ?_
    refine cs_Rd_46_d (pc := 59) rfl d_Rd_takesFigure_59 ⟨⟨by decide, by decide⟩, rfl, rfl⟩ (s_isWind) (Nat.le_of_ble_eq_true rfl) ?_
    refine wh_iconst (pc := 62) (v := 2) d_Rd_takesFigure_62 (by decide) ?_
    rw [hg]
    refine cv_Rd_26_d (pc := 63) rfl d_Rd_takesFigure_63 ⟨⟨by decide, by decide⟩, rfl, rfl⟩ (c_goN) (Nat.le_of_ble_eq_true rfl) ?_
    refine wh_zret (pc := 66) d_Rd_takesFigure_66 rfl rfl ?_
    exact ⟨_, rfl, (fc_sI (by unfold scC; omega)), Or.inr ⟨(show rdS 1 n m T c = none by show (if fgB c 2 then _ else _) = _; rw [fgB_f (fun z => absurd ((fg_iff (by decide) hq hc).mp z) (by omega))]; rfl), rfl⟩⟩
theorem c_tf2 {l : Launch} {D : va_G} {base : Nat} {g : Hp} {n m : Nat} {T : St} (r : RC g 2 n m T) (w : WR (2, n, m, T)) {c : Int32} {q : Nat} (hq : q ≤ 9) (hc : c - 48 = nI q) : SI l D base M_Rd_takesFigure [.ref 18, .int (nI q), .ref 10] g (fun g' x => FC g g' ∧ ((∃ s' : RS, rdS 2 n m T c = some s' ∧ x = 1 ∧ RC g' s'.1 s'.2.1 s'.2.2.1 s'.2.2.2) ∨ (rdS 2 n m T c = none ∧ x = 0))) := by
  refine SP.of [some (.ref 18), some (.int (nI q)), some (.ref 10)] (by decide) rfl (Nat.le_of_ble_eq_true rfl) ?_
  have wo := w
  obtain ⟨w1, w2, w3, w4, w5, w6, w7, w8, w9⟩ := w
  simp only at w1 w2 w3 w4 w5 w6 w7 w8 w9
  have ro := r
  obtain ⟨r1, r2, r3, r4, r5, r6, r7, r8, r9, r10⟩ := r
  refine wh_aload_n (pc := 0) d_Rd_takesFigure_0 rfl rfl ?_
  refine gf_Rd_11 (pc := 1) rfl d_Rd_takesFigure_1 ?_
  rw [r1]
  refine wh_tabIn (pc := 4) (tgt := 67) d_Rd_takesFigure_4 (by decide) (by decide) rfl (by decide) ?_
  refine wh_aload_n (pc := 67) d_Rd_takesFigure_67 rfl rfl ?_
  refine wh_iload_n (pc := 68) d_Rd_takesFigure_68 rfl rfl ?_
  refine pf_Rd_50 (pc := 69) (Or.inr rfl) rfl d_Rd_takesFigure_69 ?_
  refine wh_aload_n (pc := 72) d_Rd_takesFigure_72 rfl rfl ?_
  refine wh_iconst (pc := 73) (v := 1) d_Rd_takesFigure_73 (by decide) ?_
  refine wh_iconst (pc := 74) (v := 3) d_Rd_takesFigure_74 (by decide) ?_
  refine cv_Rd_26_d (pc := 75) rfl d_Rd_takesFigure_75 ⟨⟨by decide, by decide⟩, rfl, rfl⟩ (c_goY) (Nat.le_of_ble_eq_true rfl) ?_
  refine wh_zret (pc := 78) d_Rd_takesFigure_78 rfl rfl ?_
  refine ⟨_, rfl, ((fc_sI (by unfold scC; omega)).tr (fc_sI (by unfold scC; omega))), Or.inl ⟨_, (show rdS 2 n m T c = _ by show (if fgB c 9 then _ else _) = _; rw [fgB_t ((fg_iff (by decide) hq hc).mpr (by omega))]; rfl), rfl, ?_⟩⟩
  refine ⟨gI_sS _ _ _ _, ?_, ?_, ?_, ?_, ?_, ?_, ?_, ?_, ?_⟩ <;> simp only [gI_sI, setS] <;> grind
theorem lane_18 {g : Hp} {k : Nat} {v : Int32} : laneS (sI g 18 k v) 10 = laneS g 10 := lane_ext (fun j _ _ => gI_sN (by decide)) (fun c j h1 h2 _ => gI_sN (by omega))
theorem c_tf4 {l : Launch} {D : va_G} {base : Nat} {g : Hp} {n m : Nat} {T : St} (r : RC g 4 n m T) (w : WR (4, n, m, T)) {c : Int32} {q : Nat} (hq : q ≤ 9) (hc : c - 48 = nI q) : SI l D base M_Rd_takesFigure [.ref 18, .int (nI q), .ref 10] g (fun g' x => FC g g' ∧ ((∃ s' : RS, rdS 4 n m T c = some s' ∧ x = 1 ∧ RC g' s'.1 s'.2.1 s'.2.2.1 s'.2.2.2) ∨ (rdS 4 n m T c = none ∧ x = 0))) := by
  refine SP.of [some (.ref 18), some (.int (nI q)), some (.ref 10)] (by decide) rfl (Nat.le_of_ble_eq_true rfl) ?_
  have wo := w
  obtain ⟨w1, w2, w3, w4, w5, w6, w7, w8, w9⟩ := w
  simp only at w1 w2 w3 w4 w5 w6 w7 w8 w9
  have ro := r
  obtain ⟨r1, r2, r3, r4, r5, r6, r7, r8, r9, r10⟩ := r
  obtain ⟨hWF, hWn, hW0⟩ := rc_wf ro wo
  have hfr : anyN (fun k => decide (laneS g 10 0 k = nI q)) (nW (laneS g 10)) = anyN (fun k => decide (T 0 k = c - 48)) n := by rw [hWn, hc]; exact any_congr n (fun k hk => by rw [hW0 k hk])
  have hfs : SD l D base M_Ln_isFree [.ref 10, .int (nI q)] (sI g 18 1 (nI q)) (some (.int (if anyN (fun k => decide (T 0 k = c - 48)) n then 0 else 1))) (sI g 18 1 (nI q)) := by rw [← hfr]; exact s_isFree (Or.inr rfl) lane_18 hWF
  by_cases q8 : q ≤ 8
  · have hb8 := fgB_t ((fg_iff (b := 8) (by decide) hq hc).mpr q8)
    cases hf : anyN (fun k => decide (T 0 k = c - 48)) n with
    | true =>
      rw [hf] at hfs
      refine wh_aload_n (pc := 0) d_Rd_takesFigure_0 rfl rfl ?_
      refine gf_Rd_11 (pc := 1) rfl d_Rd_takesFigure_1 ?_
      rw [r1]
      refine wh_tabIn (pc := 4) (tgt := 79) d_Rd_takesFigure_4 (by decide) (by decide) rfl (by decide) ?_
      refine wh_aload_n (pc := 79) d_Rd_takesFigure_79 rfl rfl ?_
      refine wh_iload_n (pc := 80) d_Rd_takesFigure_80 rfl rfl ?_
      refine pf_Rd_15 (pc := 81) rfl d_Rd_takesFigure_81 ?_
      refine wh_aload_n (pc := 84) d_Rd_takesFigure_84 rfl rfl ?_
      refine wh_iload_n (pc := 85) d_Rd_takesFigure_85 rfl rfl ?_
      refine wh_bipush (pc := 86) (v := 9) d_Rd_takesFigure_86 (by decide) ?_
      refine wh_icmp_ge (pc := 88) (tgt := 103) d_Rd_takesFigure_88 (by decide) (fun c_88 => absurd c_88 (nI_ge (b := 9) (by omega) (by decide))) (fun c_88 => ?_)
      refine wh_aload_n (pc := 91) d_Rd_takesFigure_91 rfl rfl ?_
      refine wh_iload_n (pc := 92) d_Rd_takesFigure_92 rfl rfl ?_
      refine cv_Rd_53_d (pc := 93) (Or.inr rfl) rfl d_Rd_takesFigure_93 ⟨⟨by decide, by decide⟩, rfl, rfl⟩ (hfs) (Nat.le_of_ble_eq_true rfl) ?_
      refine wh_if_eq (pc := 96) (tgt := 103) d_Rd_takesFigure_96 (by decide) (fun c_96 => ?_) (fun c_96 => absurd rfl c_96)
      refine wh_iconst (pc := 103) (v := 0) d_Rd_takesFigure_103 (by decide) ?_
      refine wh_iconst (pc := 104) (v := 5) d_Rd_takesFigure_104 (by decide) ?_
      refine cv_Rd_26_d (pc := 105) rfl d_Rd_takesFigure_105 ⟨⟨by decide, by decide⟩, rfl, rfl⟩ (c_goN) (Nat.le_of_ble_eq_true rfl) ?_
      refine wh_zret (pc := 108) d_Rd_takesFigure_108 rfl rfl ?_
      exact ⟨_, rfl, (fc_sI (by unfold scC; omega)), Or.inr ⟨(show rdS 4 n m T c = none by show (if fgB c 8 && !anyN (fun k => decide (T 0 k = c - 48)) n then _ else _) = _; rw [hb8, hf]; rfl), rfl⟩⟩
    | false =>
      rw [hf] at hfs
      refine wh_aload_n (pc := 0) d_Rd_takesFigure_0 rfl rfl ?_
      refine gf_Rd_11 (pc := 1) rfl d_Rd_takesFigure_1 ?_
      rw [r1]
      refine wh_tabIn (pc := 4) (tgt := 79) d_Rd_takesFigure_4 (by decide) (by decide) rfl (by decide) ?_
      refine wh_aload_n (pc := 79) d_Rd_takesFigure_79 rfl rfl ?_
      refine wh_iload_n (pc := 80) d_Rd_takesFigure_80 rfl rfl ?_
      refine pf_Rd_15 (pc := 81) rfl d_Rd_takesFigure_81 ?_
      refine wh_aload_n (pc := 84) d_Rd_takesFigure_84 rfl rfl ?_
      refine wh_iload_n (pc := 85) d_Rd_takesFigure_85 rfl rfl ?_
      refine wh_bipush (pc := 86) (v := 9) d_Rd_takesFigure_86 (by decide) ?_
      refine wh_icmp_ge (pc := 88) (tgt := 103) d_Rd_takesFigure_88 (by decide) (fun c_88 => absurd c_88 (nI_ge (b := 9) (by omega) (by decide))) (fun c_88 => ?_)
      refine wh_aload_n (pc := 91) d_Rd_takesFigure_91 rfl rfl ?_
      refine wh_iload_n (pc := 92) d_Rd_takesFigure_92 rfl rfl ?_
      refine cv_Rd_53_d (pc := 93) (Or.inr rfl) rfl d_Rd_takesFigure_93 ⟨⟨by decide, by decide⟩, rfl, rfl⟩ (hfs) (Nat.le_of_ble_eq_true rfl) ?_
      refine wh_if_eq (pc := 96) (tgt := 103) d_Rd_takesFigure_96 (by decide) (fun c_96 => absurd c_96 (by decide)) (fun c_96 => ?_)
      refine wh_iconst (pc := 99) (v := 1) d_Rd_takesFigure_99 (by decide) ?_
      refine wh_goto (pc := 100) (tgt := 104) d_Rd_takesFigure_100 (by decide) ?_
      refine wh_iconst (pc := 104) (v := 5) d_Rd_takesFigure_104 (by decide) ?_
      refine cv_Rd_26_d (pc := 105) rfl d_Rd_takesFigure_105 ⟨⟨by decide, by decide⟩, rfl, rfl⟩ (c_goY) (Nat.le_of_ble_eq_true rfl) ?_
      refine wh_zret (pc := 108) d_Rd_takesFigure_108 rfl rfl ?_
      refine ⟨_, rfl, ((fc_sI (by unfold scC; omega)).tr (fc_sI (by unfold scC; omega))), Or.inl ⟨_, (show rdS 4 n m T c = _ by show (if fgB c 8 && !anyN (fun k => decide (T 0 k = c - 48)) n then _ else _) = _; rw [hb8, hf]; rfl), rfl, ?_⟩⟩
      refine ⟨gI_sS _ _ _ _, ?_, ?_, ?_, ?_, ?_, ?_, ?_, ?_, ?_⟩ <;> simp only [gI_sI, setS] <;> grind
  · refine wh_aload_n (pc := 0) d_Rd_takesFigure_0 rfl rfl ?_
    refine gf_Rd_11 (pc := 1) rfl d_Rd_takesFigure_1 ?_
    rw [r1]
    refine wh_tabIn (pc := 4) (tgt := 79) d_Rd_takesFigure_4 (by decide) (by decide) rfl (by decide) ?_
    refine wh_aload_n (pc := 79) d_Rd_takesFigure_79 rfl rfl ?_
    refine wh_iload_n (pc := 80) d_Rd_takesFigure_80 rfl rfl ?_
    refine pf_Rd_15 (pc := 81) rfl d_Rd_takesFigure_81 ?_
    refine wh_aload_n (pc := 84) d_Rd_takesFigure_84 rfl rfl ?_
    refine wh_iload_n (pc := 85) d_Rd_takesFigure_85 rfl rfl ?_
    refine wh_bipush (pc := 86) (v := 9) d_Rd_takesFigure_86 (by decide) ?_
    refine wh_icmp_ge (pc := 88) (tgt := 103) d_Rd_takesFigure_88 (by decide) (fun c_88 => ?_) (fun c_88 => absurd (nI_le (a := 9) (by omega) (by omega)) c_88)
    refine wh_iconst (pc := 103) (v := 0) d_Rd_takesFigure_103 (by decide) ?_
    refine wh_iconst (pc := 104) (v := 5) d_Rd_takesFigure_104 (by decide) ?_
    refine cv_Rd_26_d (pc := 105) rfl d_Rd_takesFigure_105 ⟨⟨by decide, by decide⟩, rfl, rfl⟩ (c_goN) (Nat.le_of_ble_eq_true rfl) ?_
    refine wh_zret (pc := 108) d_Rd_takesFigure_108 rfl rfl ?_
    exact ⟨_, rfl, (fc_sI (by unfold scC; omega)), Or.inr ⟨(show rdS 4 n m T c = none by show (if fgB c 8 && !anyN (fun k => decide (T 0 k = c - 48)) n then _ else _) = _; rw [fgB_f (fun z => absurd ((fg_iff (by decide) hq hc).mp z) (by omega))]; rfl), rfl⟩⟩
theorem c_tf5 {l : Launch} {D : va_G} {base : Nat} {g : Hp} {n m : Nat} {T : St} (r : RC g 5 n m T) (w : WR (5, n, m, T)) {c : Int32} {q : Nat} (hq : q ≤ 9) (hc : c - 48 = nI q) : SI l D base M_Rd_takesFigure [.ref 18, .int (nI q), .ref 10] g (fun g' x => FC g g' ∧ ((∃ s' : RS, rdS 5 n m T c = some s' ∧ x = 1 ∧ RC g' s'.1 s'.2.1 s'.2.2.1 s'.2.2.2) ∨ (rdS 5 n m T c = none ∧ x = 0))) := by
  refine SP.of [some (.ref 18), some (.int (nI q)), some (.ref 10)] (by decide) rfl (Nat.le_of_ble_eq_true rfl) ?_
  have wo := w
  obtain ⟨w1, w2, w3, w4, w5, w6, w7, w8, w9⟩ := w
  simp only at w1 w2 w3 w4 w5 w6 w7 w8 w9
  have ro := r
  obtain ⟨r1, r2, r3, r4, r5, r6, r7, r8, r9, r10⟩ := r
  refine wh_aload_n (pc := 0) d_Rd_takesFigure_0 rfl rfl ?_
  refine gf_Rd_11 (pc := 1) rfl d_Rd_takesFigure_1 ?_
  rw [r1]
  refine wh_tabIn (pc := 4) (tgt := 109) d_Rd_takesFigure_4 (by decide) (by decide) rfl (by decide) ?_
  refine wh_aload_n (pc := 109) d_Rd_takesFigure_109 rfl rfl ?_
  refine wh_iload_n (pc := 110) d_Rd_takesFigure_110 rfl rfl ?_
  refine pf_Rd_18 (pc := 111) rfl d_Rd_takesFigure_111 ?_
  refine wh_aload_n (pc := 114) d_Rd_takesFigure_114 rfl rfl ?_
  refine wh_iconst (pc := 115) (v := 1) d_Rd_takesFigure_115 (by decide) ?_
  refine wh_bipush (pc := 116) (v := 6) d_Rd_takesFigure_116 (by decide) ?_
  refine cv_Rd_26_d (pc := 118) rfl d_Rd_takesFigure_118 ⟨⟨by decide, by decide⟩, rfl, rfl⟩ (c_goY) (Nat.le_of_ble_eq_true rfl) ?_
  refine wh_zret (pc := 121) d_Rd_takesFigure_121 rfl rfl ?_
  refine ⟨_, rfl, ((fc_sI (by unfold scC; omega)).tr (fc_sI (by unfold scC; omega))), Or.inl ⟨_, (show rdS 5 n m T c = _ by show (if fgB c 9 then _ else _) = _; rw [fgB_t ((fg_iff (by decide) hq hc).mpr (by omega))]; rfl), rfl, ?_⟩⟩
  refine ⟨gI_sS _ _ _ _, ?_, ?_, ?_, ?_, ?_, ?_, ?_, ?_, ?_⟩ <;> simp only [gI_sI, setS] <;> grind
theorem c_tf6 {l : Launch} {D : va_G} {base : Nat} {g : Hp} {n m : Nat} {T : St} (r : RC g 6 n m T) (w : WR (6, n, m, T)) {c : Int32} {q : Nat} (hq : q ≤ 9) (hc : c - 48 = nI q) : SI l D base M_Rd_takesFigure [.ref 18, .int (nI q), .ref 10] g (fun g' x => FC g g' ∧ ((∃ s' : RS, rdS 6 n m T c = some s' ∧ x = 1 ∧ RC g' s'.1 s'.2.1 s'.2.2.1 s'.2.2.2) ∨ (rdS 6 n m T c = none ∧ x = 0))) := by
  refine SP.of [some (.ref 18), some (.int (nI q)), some (.ref 10)] (by decide) rfl (Nat.le_of_ble_eq_true rfl) ?_
  have wo := w
  obtain ⟨w1, w2, w3, w4, w5, w6, w7, w8, w9⟩ := w
  simp only at w1 w2 w3 w4 w5 w6 w7 w8 w9
  have ro := r
  obtain ⟨r1, r2, r3, r4, r5, r6, r7, r8, r9, r10⟩ := r
  have hn5 := w4 (by omega)
  by_cases q3 : q ≤ 3
  · refine wh_aload_n (pc := 0) d_Rd_takesFigure_0 rfl rfl ?_
    refine gf_Rd_11 (pc := 1) rfl d_Rd_takesFigure_1 ?_
    rw [r1]
    refine wh_tabIn (pc := 4) (tgt := 122) d_Rd_takesFigure_4 (by decide) (by decide) rfl (by decide) ?_
    refine wh_aload_n (pc := 122) d_Rd_takesFigure_122 rfl rfl ?_
    refine wh_iload_n (pc := 123) d_Rd_takesFigure_123 rfl rfl ?_
    refine wh_iconst (pc := 124) (v := 4) d_Rd_takesFigure_124 (by decide) ?_
    refine wh_icmp_ge (pc := 125) (tgt := 148) d_Rd_takesFigure_125 (by decide) (fun c_125 => absurd c_125 (nI_ge (b := 4) (by omega) (by decide))) (fun c_125 => ?_)
    refine wh_aload_n (pc := 128) d_Rd_takesFigure_128 rfl rfl ?_
    refine wh_aload_n (pc := 129) d_Rd_takesFigure_129 rfl rfl ?_
    refine gf_Rd_15 (pc := 130) rfl d_Rd_takesFigure_130 ?_
    refine wh_aload_n (pc := 133) d_Rd_takesFigure_133 rfl rfl ?_
    refine gf_Rd_18 (pc := 134) rfl d_Rd_takesFigure_134 ?_
    refine wh_iload_n (pc := 137) d_Rd_takesFigure_137 rfl rfl ?_
    refine cv_Rd_56_d (pc := 138) (Or.inr rfl) rfl d_Rd_takesFigure_138 ⟨⟨by decide, by decide⟩, rfl, rfl⟩ (s_addWindow (Or.inr rfl) r2 hn5) (Nat.le_of_ble_eq_true rfl) ?_
    refine wh_if_eq (pc := 141) (tgt := 148) d_Rd_takesFigure_141 (by decide) (fun c_141 => absurd c_141 (by decide)) (fun c_141 => ?_)
    refine wh_iconst (pc := 144) (v := 1) d_Rd_takesFigure_144 (by decide) ?_
    refine wh_goto (pc := 145) (tgt := 149) d_Rd_takesFigure_145 (by decide) ?_
    refine wh_iconst (pc := 149) (v := 3) d_Rd_takesFigure_149 (by decide) ?_
    refine cv_Rd_26_d (pc := 150) rfl d_Rd_takesFigure_150 ⟨⟨by decide, by decide⟩, rfl, rfl⟩ (c_goY) (Nat.le_of_ble_eq_true rfl) ?_
    refine wh_zret (pc := 153) d_Rd_takesFigure_153 rfl rfl ?_
    refine ⟨_, rfl, ((((((fc_sI (by unfold scC; omega)).tr (fc_sI (by unfold scC; omega))).tr (fc_sI (by unfold scC; omega))).tr (fc_sI (by unfold scC; omega))).tr (fc_sI (by unfold scC; omega))).tr (fc_sI (by unfold scC; omega))), Or.inl ⟨_, (show rdS 6 n m T c = _ by show (if fgB c 3 then _ else _) = _; rw [fgB_t ((fg_iff (by decide) hq hc).mpr (by omega))]; rfl), rfl, ?_⟩⟩
    refine ⟨gI_sS _ _ _ _, ?_, ?_, ?_, ?_, ?_, ?_, ?_, ?_, ?_⟩ <;> simp only [gI_sI, setS] <;> grind
  · refine wh_aload_n (pc := 0) d_Rd_takesFigure_0 rfl rfl ?_
    refine gf_Rd_11 (pc := 1) rfl d_Rd_takesFigure_1 ?_
    rw [r1]
    refine wh_tabIn (pc := 4) (tgt := 122) d_Rd_takesFigure_4 (by decide) (by decide) rfl (by decide) ?_
    refine wh_aload_n (pc := 122) d_Rd_takesFigure_122 rfl rfl ?_
    refine wh_iload_n (pc := 123) d_Rd_takesFigure_123 rfl rfl ?_
    refine wh_iconst (pc := 124) (v := 4) d_Rd_takesFigure_124 (by decide) ?_
    refine wh_icmp_ge (pc := 125) (tgt := 148) d_Rd_takesFigure_125 (by decide) (fun c_125 => ?_) (fun c_125 => absurd (nI_le (a := 4) (by omega) (by omega)) c_125)
    refine wh_iconst (pc := 148) (v := 0) d_Rd_takesFigure_148 (by decide) ?_
    refine wh_iconst (pc := 149) (v := 3) d_Rd_takesFigure_149 (by decide) ?_
    refine cv_Rd_26_d (pc := 150) rfl d_Rd_takesFigure_150 ⟨⟨by decide, by decide⟩, rfl, rfl⟩ (c_goN) (Nat.le_of_ble_eq_true rfl) ?_
    refine wh_zret (pc := 153) d_Rd_takesFigure_153 rfl rfl ?_
    exact ⟨_, rfl, (FC.rf g), Or.inr ⟨(show rdS 6 n m T c = none by show (if fgB c 3 then _ else _) = _; rw [fgB_f (fun z => absurd ((fg_iff (by decide) hq hc).mp z) (by omega))]; rfl), rfl⟩⟩
theorem c_tf7 {l : Launch} {D : va_G} {base : Nat} {g : Hp} {n m : Nat} {T : St} (r : RC g 7 n m T) (w : WR (7, n, m, T)) {c : Int32} {q : Nat} (hq : q ≤ 9) (hc : c - 48 = nI q) : SI l D base M_Rd_takesFigure [.ref 18, .int (nI q), .ref 10] g (fun g' x => FC g g' ∧ ((∃ s' : RS, rdS 7 n m T c = some s' ∧ x = 1 ∧ RC g' s'.1 s'.2.1 s'.2.2.1 s'.2.2.2) ∨ (rdS 7 n m T c = none ∧ x = 0))) := by
  refine SP.of [some (.ref 18), some (.int (nI q)), some (.ref 10)] (by decide) rfl (Nat.le_of_ble_eq_true rfl) ?_
  have wo := w
  obtain ⟨w1, w2, w3, w4, w5, w6, w7, w8, w9⟩ := w
  simp only at w1 w2 w3 w4 w5 w6 w7 w8 w9
  have ro := r
  obtain ⟨r1, r2, r3, r4, r5, r6, r7, r8, r9, r10⟩ := r
  by_cases q8 : q ≤ 8
  · refine wh_aload_n (pc := 0) d_Rd_takesFigure_0 rfl rfl ?_
    refine gf_Rd_11 (pc := 1) rfl d_Rd_takesFigure_1 ?_
    rw [r1]
    refine wh_tabIn (pc := 4) (tgt := 154) d_Rd_takesFigure_4 (by decide) (by decide) rfl (by decide) ?_
    refine wh_aload_n (pc := 154) d_Rd_takesFigure_154 rfl rfl ?_
    refine wh_iload_n (pc := 155) d_Rd_takesFigure_155 rfl rfl ?_
    refine pf_Rd_15 (pc := 156) rfl d_Rd_takesFigure_156 ?_
    refine wh_aload_n (pc := 159) d_Rd_takesFigure_159 rfl rfl ?_
    refine wh_iload_n (pc := 160) d_Rd_takesFigure_160 rfl rfl ?_
    refine wh_bipush (pc := 161) (v := 9) d_Rd_takesFigure_161 (by decide) ?_
    refine wh_icmp_ge (pc := 163) (tgt := 170) d_Rd_takesFigure_163 (by decide) (fun c_163 => absurd c_163 (nI_ge (b := 9) (by omega) (by decide))) (fun c_163 => ?_)
    refine wh_iconst (pc := 166) (v := 1) d_Rd_takesFigure_166 (by decide) ?_
    refine wh_goto (pc := 167) (tgt := 171) d_Rd_takesFigure_167 (by decide) ?_
    refine wh_bipush (pc := 171) (v := 8) d_Rd_takesFigure_171 (by decide) ?_
    refine cv_Rd_26_d (pc := 173) rfl d_Rd_takesFigure_173 ⟨⟨by decide, by decide⟩, rfl, rfl⟩ (c_goY) (Nat.le_of_ble_eq_true rfl) ?_
    refine wh_zret (pc := 176) d_Rd_takesFigure_176 rfl rfl ?_
    refine ⟨_, rfl, ((fc_sI (by unfold scC; omega)).tr (fc_sI (by unfold scC; omega))), Or.inl ⟨_, (show rdS 7 n m T c = _ by show (if fgB c 8 then _ else _) = _; rw [fgB_t ((fg_iff (by decide) hq hc).mpr (by omega))]; rfl), rfl, ?_⟩⟩
    refine ⟨gI_sS _ _ _ _, ?_, ?_, ?_, ?_, ?_, ?_, ?_, ?_, ?_⟩ <;> simp only [gI_sI, setS] <;> grind
  · refine wh_aload_n (pc := 0) d_Rd_takesFigure_0 rfl rfl ?_
    refine gf_Rd_11 (pc := 1) rfl d_Rd_takesFigure_1 ?_
    rw [r1]
    refine wh_tabIn (pc := 4) (tgt := 154) d_Rd_takesFigure_4 (by decide) (by decide) rfl (by decide) ?_
    refine wh_aload_n (pc := 154) d_Rd_takesFigure_154 rfl rfl ?_
    refine wh_iload_n (pc := 155) d_Rd_takesFigure_155 rfl rfl ?_
    refine pf_Rd_15 (pc := 156) rfl d_Rd_takesFigure_156 ?_
    refine wh_aload_n (pc := 159) d_Rd_takesFigure_159 rfl rfl ?_
    refine wh_iload_n (pc := 160) d_Rd_takesFigure_160 rfl rfl ?_
    refine wh_bipush (pc := 161) (v := 9) d_Rd_takesFigure_161 (by decide) ?_
    refine wh_icmp_ge (pc := 163) (tgt := 170) d_Rd_takesFigure_163 (by decide) (fun c_163 => ?_) (fun c_163 => absurd (nI_le (a := 9) (by omega) (by omega)) c_163)
    refine wh_iconst (pc := 170) (v := 0) d_Rd_takesFigure_170 (by decide) ?_
    refine wh_bipush (pc := 171) (v := 8) d_Rd_takesFigure_171 (by decide) ?_
    refine cv_Rd_26_d (pc := 173) rfl d_Rd_takesFigure_173 ⟨⟨by decide, by decide⟩, rfl, rfl⟩ (c_goN) (Nat.le_of_ble_eq_true rfl) ?_
    refine wh_zret (pc := 176) d_Rd_takesFigure_176 rfl rfl ?_
    exact ⟨_, rfl, (fc_sI (by unfold scC; omega)), Or.inr ⟨(show rdS 7 n m T c = none by show (if fgB c 8 then _ else _) = _; rw [fgB_f (fun z => absurd ((fg_iff (by decide) hq hc).mp z) (by omega))]; rfl), rfl⟩⟩
theorem c_tf8 {l : Launch} {D : va_G} {base : Nat} {g : Hp} {n m : Nat} {T : St} (r : RC g 8 n m T) (w : WR (8, n, m, T)) {c : Int32} {q : Nat} (hq : q ≤ 9) (hc : c - 48 = nI q) : SI l D base M_Rd_takesFigure [.ref 18, .int (nI q), .ref 10] g (fun g' x => FC g g' ∧ ((∃ s' : RS, rdS 8 n m T c = some s' ∧ x = 1 ∧ RC g' s'.1 s'.2.1 s'.2.2.1 s'.2.2.2) ∨ (rdS 8 n m T c = none ∧ x = 0))) := by
  refine SP.of [some (.ref 18), some (.int (nI q)), some (.ref 10)] (by decide) rfl (Nat.le_of_ble_eq_true rfl) ?_
  have wo := w
  obtain ⟨w1, w2, w3, w4, w5, w6, w7, w8, w9⟩ := w
  simp only at w1 w2 w3 w4 w5 w6 w7 w8 w9
  have ro := r
  obtain ⟨r1, r2, r3, r4, r5, r6, r7, r8, r9, r10⟩ := r
  have hm6 := w5 (by omega)
  by_cases q3 : q ≤ 3
  · refine wh_aload_n (pc := 0) d_Rd_takesFigure_0 rfl rfl ?_
    refine gf_Rd_11 (pc := 1) rfl d_Rd_takesFigure_1 ?_
    rw [r1]
    refine wh_tabIn (pc := 4) (tgt := 177) d_Rd_takesFigure_4 (by decide) (by decide) rfl (by decide) ?_
    refine wh_aload_n (pc := 177) d_Rd_takesFigure_177 rfl rfl ?_
    refine wh_iload_n (pc := 178) d_Rd_takesFigure_178 rfl rfl ?_
    refine wh_iconst (pc := 179) (v := 4) d_Rd_takesFigure_179 (by decide) ?_
    refine wh_icmp_ge (pc := 180) (tgt := 199) d_Rd_takesFigure_180 (by decide) (fun c_180 => absurd c_180 (nI_ge (b := 4) (by omega) (by decide))) (fun c_180 => ?_)
    refine wh_aload_n (pc := 183) d_Rd_takesFigure_183 rfl rfl ?_
    refine wh_aload_n (pc := 184) d_Rd_takesFigure_184 rfl rfl ?_
    refine gf_Rd_15 (pc := 185) rfl d_Rd_takesFigure_185 ?_
    refine wh_iload_n (pc := 188) d_Rd_takesFigure_188 rfl rfl ?_
    refine cv_Rd_60_d (pc := 189) (Or.inr rfl) rfl d_Rd_takesFigure_189 ⟨⟨by decide, by decide⟩, rfl, rfl⟩ (s_addMoth (Or.inr rfl) r3 hm6) (Nat.le_of_ble_eq_true rfl) ?_
    refine wh_if_eq (pc := 192) (tgt := 199) d_Rd_takesFigure_192 (by decide) (fun c_192 => absurd c_192 (by decide)) (fun c_192 => ?_)
    refine wh_iconst (pc := 195) (v := 1) d_Rd_takesFigure_195 (by decide) ?_
    refine wh_goto (pc := 196) (tgt := 200) d_Rd_takesFigure_196 (by decide) ?_
    refine wh_iconst (pc := 200) (v := 3) d_Rd_takesFigure_200 (by decide) ?_
    refine cv_Rd_26_d (pc := 201) rfl d_Rd_takesFigure_201 ⟨⟨by decide, by decide⟩, rfl, rfl⟩ (c_goY) (Nat.le_of_ble_eq_true rfl) ?_
    refine wh_zret (pc := 204) d_Rd_takesFigure_204 rfl rfl ?_
    refine ⟨_, rfl, ((((fc_sI (by unfold scC; omega)).tr (fc_sI (by unfold scC; omega))).tr (fc_sI (by unfold scC; omega))).tr (fc_sI (by unfold scC; omega))), Or.inl ⟨_, (show rdS 8 n m T c = _ by show (if fgB c 3 then _ else _) = _; rw [fgB_t ((fg_iff (by decide) hq hc).mpr (by omega))]; rfl), rfl, ?_⟩⟩
    refine ⟨gI_sS _ _ _ _, ?_, ?_, ?_, ?_, ?_, ?_, ?_, ?_, ?_⟩ <;> simp only [gI_sI, setS] <;> grind
  · refine wh_aload_n (pc := 0) d_Rd_takesFigure_0 rfl rfl ?_
    refine gf_Rd_11 (pc := 1) rfl d_Rd_takesFigure_1 ?_
    rw [r1]
    refine wh_tabIn (pc := 4) (tgt := 177) d_Rd_takesFigure_4 (by decide) (by decide) rfl (by decide) ?_
    refine wh_aload_n (pc := 177) d_Rd_takesFigure_177 rfl rfl ?_
    refine wh_iload_n (pc := 178) d_Rd_takesFigure_178 rfl rfl ?_
    refine wh_iconst (pc := 179) (v := 4) d_Rd_takesFigure_179 (by decide) ?_
    refine wh_icmp_ge (pc := 180) (tgt := 199) d_Rd_takesFigure_180 (by decide) (fun c_180 => ?_) (fun c_180 => absurd (nI_le (a := 4) (by omega) (by omega)) c_180)
    refine wh_iconst (pc := 199) (v := 0) d_Rd_takesFigure_199 (by decide) ?_
    refine wh_iconst (pc := 200) (v := 3) d_Rd_takesFigure_200 (by decide) ?_
    refine cv_Rd_26_d (pc := 201) rfl d_Rd_takesFigure_201 ⟨⟨by decide, by decide⟩, rfl, rfl⟩ (c_goN) (Nat.le_of_ble_eq_true rfl) ?_
    refine wh_zret (pc := 204) d_Rd_takesFigure_204 rfl rfl ?_
    exact ⟨_, rfl, (FC.rf g), Or.inr ⟨(show rdS 8 n m T c = none by show (if fgB c 3 then _ else _) = _; rw [fgB_f (fun z => absurd ((fg_iff (by decide) hq hc).mp z) (by omega))]; rfl), rfl⟩⟩

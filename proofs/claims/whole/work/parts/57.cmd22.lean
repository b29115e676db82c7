theorem rd_nofig {d n m : Nat} {T : St} {c : Int32} (h0 : d ≠ 0) (h3 : d ≠ 3) (h : ¬ fg c 9) : rdS d n m T c = none := by
  have e : ∀ b, b ≤ 9 → fgB c b = false := fun b hb => fgB_f (fun z => h (fg_9 hb z))
  unfold rdS
  split
  · exact absurd rfl h0
  · rw [e 2 (by decide)]; rfl
  · rw [e 9 (by decide)]; rfl
  · exact absurd rfl h3
  · rw [e 8 (by decide)]; rfl
  · rw [e 9 (by decide)]; rfl
  · rw [e 3 (by decide)]; rfl
  · rw [e 8 (by decide)]; rfl
  · rw [e 3 (by decide)]; rfl
  · rfl
theorem c_tp {l : Launch} {D : va_G} {base : Nat} {g : Hp} {n m : Nat} {T : St} (r : RC g 3 n m T) (w : WR (3, n, m, T)) {c : Int32} : SI l D base M_Rd_takesPart [.ref 18, .int c, .ref 10] g (fun g' x => FC g g' ∧ ((∃ s' : RS, rdS 3 n m T c = some s' ∧ x = 1 ∧ RC g' s'.1 s'.2.1 s'.2.2.1 s'.2.2.2) ∨ (rdS 3 n m T c = none ∧ x = 0))) := by
  refine SP.of [some (.ref 18), some (.int c), some (.ref 10)] (by decide) rfl (Nat.le_of_ble_eq_true rfl) ?_
  have wo := w
  obtain ⟨w1, w2, w3, w4, w5, w6, w7, w8, w9⟩ := w
  simp only at w1 w2 w3 w4 w5 w6 w7 w8 w9
  have ro := r
  obtain ⟨r1, r2, r3, r4, r5, r6, r7, r8, r9, r10⟩ := r
  by_cases c1 : c = 87
  · by_cases n5 : n < 5
    · refine wh_iload_n (pc := 0) d_Rd_takesPart_0 rfl rfl ?_
      refine wh_bipush (pc := 1) (v := 87) d_Rd_takesPart_1 (by decide) ?_
      refine wh_icmp_ne (pc := 3) (tgt := 25) d_Rd_takesPart_3 (by decide) (fun c_3 => absurd c1 c_3) (fun c_3 => ?_)
      refine wh_aload_n (pc := 6) d_Rd_takesPart_6 rfl rfl ?_
      refine wh_aload_n (pc := 7) d_Rd_takesPart_7 rfl rfl ?_
      refine gf_Rd_37 (pc := 8) (Or.inr rfl) rfl d_Rd_takesPart_8 ?_
      refine wh_iconst (pc := 11) (v := 5) d_Rd_takesPart_11 (by decide) ?_
      refine wh_icmp_ge (pc := 12) (tgt := 19) d_Rd_takesPart_12 (by decide) (fun c_12 => absurd c_12 (by rw [r2]; exact nI_ge (b := 5) n5 (by decide))) (fun c_12 => ?_)
      refine wh_iconst (pc := 15) (v := 1) d_Rd_takesPart_15 (by decide) ?_
      refine wh_goto (pc := 16) (tgt := 20) d_Rd_takesPart_16 (by decide) ?_
      refine wh_iconst (pc := 20) (v := 4) d_Rd_takesPart_20 (by decide) ?_
      refine cv_Rd_26_d (pc := 21) rfl d_Rd_takesPart_21 ⟨⟨by decide, by decide⟩, rfl, rfl⟩ (c_goY) (Nat.le_of_ble_eq_true rfl) ?_
      refine wh_zret (pc := 24) d_Rd_takesPart_24 rfl rfl ?_
      refine ⟨_, rfl, (fc_sI (by unfold scC; omega)), Or.inl ⟨(4, n, m, T), (show rd3 n m T c = _ by unfold rd3; rw [if_pos c1, if_pos n5]), rfl, ?_⟩⟩
      refine ⟨gI_sS _ _ _ _, ?_, ?_, ?_, ?_, ?_, ?_, ?_, ?_, ?_⟩ <;> simp only [gI_sI, setS] <;> grind
    · refine wh_iload_n (pc := 0) d_Rd_takesPart_0 rfl rfl ?_
      refine wh_bipush (pc := 1) (v := 87) d_Rd_takesPart_1 (by decide) ?_
      refine wh_icmp_ne (pc := 3) (tgt := 25) d_Rd_takesPart_3 (by decide) (fun c_3 => absurd c1 c_3) (fun c_3 => ?_)
      refine wh_aload_n (pc := 6) d_Rd_takesPart_6 rfl rfl ?_
      refine wh_aload_n (pc := 7) d_Rd_takesPart_7 rfl rfl ?_
      refine gf_Rd_37 (pc := 8) (Or.inr rfl) rfl d_Rd_takesPart_8 ?_
      refine wh_iconst (pc := 11) (v := 5) d_Rd_takesPart_11 (by decide) ?_
      refine wh_icmp_ge (pc := 12) (tgt := 19) d_Rd_takesPart_12 (by decide) (fun c_12 => ?_) (fun c_12 => absurd (by rw [r2]; exact nI_le (a := 5) (by omega) (by omega)) c_12)
      refine wh_iconst (pc := 19) (v := 0) d_Rd_takesPart_19 (by decide) ?_
      refine wh_iconst (pc := 20) (v := 4) d_Rd_takesPart_20 (by decide) ?_
      refine cv_Rd_26_d (pc := 21) rfl d_Rd_takesPart_21 ⟨⟨by decide, by decide⟩, rfl, rfl⟩ (c_goN) (Nat.le_of_ble_eq_true rfl) ?_
      refine wh_zret (pc := 24) d_Rd_takesPart_24 rfl rfl ?_
      exact ⟨_, rfl, FC.rf g, Or.inr ⟨(show rd3 n m T c = _ by unfold rd3; rw [if_pos c1, if_neg n5]), rfl⟩⟩
  by_cases c2 : c = 77
  · by_cases m6 : m < 6
    · refine wh_iload_n (pc := 0) d_Rd_takesPart_0 rfl rfl ?_
      refine wh_bipush (pc := 1) (v := 87) d_Rd_takesPart_1 (by decide) ?_
      refine wh_icmp_ne (pc := 3) (tgt := 25) d_Rd_takesPart_3 (by decide) (fun c_3 => ?_) (fun c_3 => absurd c_3 c1)
      refine wh_aload_n (pc := 25) d_Rd_takesPart_25 rfl rfl ?_
      refine wh_iload_n (pc := 26) d_Rd_takesPart_26 rfl rfl ?_
      refine wh_bipush (pc := 27) (v := 77) d_Rd_takesPart_27 (by decide) ?_
      refine wh_icmp_ne (pc := 29) (tgt := 45) d_Rd_takesPart_29 (by decide) (fun c_29 => absurd c2 c_29) (fun c_29 => ?_)
      refine wh_aload_n (pc := 32) d_Rd_takesPart_32 rfl rfl ?_
      refine gf_Rd_40 (pc := 33) (Or.inr rfl) rfl d_Rd_takesPart_33 ?_
      refine wh_bipush (pc := 36) (v := 6) d_Rd_takesPart_36 (by decide) ?_
      refine wh_icmp_ge (pc := 38) (tgt := 45) d_Rd_takesPart_38 (by decide) (fun c_38 => absurd c_38 (by rw [r3]; exact nI_ge (b := 6) m6 (by decide))) (fun c_38 => ?_)
      refine wh_iconst (pc := 41) (v := 1) d_Rd_takesPart_41 (by decide) ?_
      refine wh_goto (pc := 42) (tgt := 46) d_Rd_takesPart_42 (by decide) ?_
      refine wh_bipush (pc := 46) (v := 7) d_Rd_takesPart_46 (by decide) ?_
      refine cv_Rd_26_d (pc := 48) rfl d_Rd_takesPart_48 ⟨⟨by decide, by decide⟩, rfl, rfl⟩ (c_goY) (Nat.le_of_ble_eq_true rfl) ?_
      refine wh_zret (pc := 51) d_Rd_takesPart_51 rfl rfl ?_
      refine ⟨_, rfl, (fc_sI (by unfold scC; omega)), Or.inl ⟨(7, n, m, T), (show rd3 n m T c = _ by unfold rd3; rw [if_neg c1, if_pos ⟨c2, m6⟩]), rfl, ?_⟩⟩
      refine ⟨gI_sS _ _ _ _, ?_, ?_, ?_, ?_, ?_, ?_, ?_, ?_, ?_⟩ <;> simp only [gI_sI, setS] <;> grind
    · refine wh_iload_n (pc := 0) d_Rd_takesPart_0 rfl rfl ?_
      refine wh_bipush (pc := 1) (v := 87) d_Rd_takesPart_1 (by decide) ?_
      refine wh_icmp_ne (pc := 3) (tgt := 25) d_Rd_takesPart_3 (by decide) (fun c_3 => ?_) (fun c_3 => absurd c_3 c1)
      refine wh_aload_n (pc := 25) d_Rd_takesPart_25 rfl rfl ?_
      refine wh_iload_n (pc := 26) d_Rd_takesPart_26 rfl rfl ?_
      refine wh_bipush (pc := 27) (v := 77) d_Rd_takesPart_27 (by decide) ?_
      refine wh_icmp_ne (pc := 29) (tgt := 45) d_Rd_takesPart_29 (by decide) (fun c_29 => absurd c2 c_29) (fun c_29 => ?_)
      refine wh_aload_n (pc := 32) d_Rd_takesPart_32 rfl rfl ?_
      refine gf_Rd_40 (pc := 33) (Or.inr rfl) rfl d_Rd_takesPart_33 ?_
      refine wh_bipush (pc := 36) (v := 6) d_Rd_takesPart_36 (by decide) ?_
      refine wh_icmp_ge (pc := 38) (tgt := 45) d_Rd_takesPart_38 (by decide) (fun c_38 => ?_) (fun c_38 => absurd (by rw [r3]; exact nI_le (a := 6) (by omega) (by omega)) c_38)
      refine wh_iconst (pc := 45) (v := 0) d_Rd_takesPart_45 (by decide) ?_
      refine wh_bipush (pc := 46) (v := 7) d_Rd_takesPart_46 (by decide) ?_
      refine cv_Rd_26_d (pc := 48) rfl d_Rd_takesPart_48 ⟨⟨by decide, by decide⟩, rfl, rfl⟩ (c_goN) (Nat.le_of_ble_eq_true rfl) ?_
      refine wh_zret (pc := 51) d_Rd_takesPart_51 rfl rfl ?_
      exact ⟨_, rfl, FC.rf g, Or.inr ⟨(show rd3 n m T c = _ by unfold rd3; rw [if_neg c1, if_neg (fun z => m6 z.2)]), rfl⟩⟩
  refine wh_iload_n (pc := 0) d_Rd_takesPart_0 rfl rfl ?_
  refine wh_bipush (pc := 1) (v := 87) d_Rd_takesPart_1 (by decide) ?_
  refine wh_icmp_ne (pc := 3) (tgt := 25) d_Rd_takesPart_3 (by decide) (fun c_3 => ?_) (fun c_3 => absurd c_3 c1)
  refine wh_aload_n (pc := 25) d_Rd_takesPart_25 rfl rfl ?_
  refine wh_iload_n (pc := 26) d_Rd_takesPart_26 rfl rfl ?_
  refine wh_bipush (pc := 27) (v := 77) d_Rd_takesPart_27 (by decide) ?_
  refine wh_icmp_ne (pc := 29) (tgt := 45) d_Rd_takesPart_29 (by decide) (fun c_29 => ?_) (fun c_29 => absurd c_29 c2)
  refine wh_iconst (pc := 45) (v := 0) d_Rd_takesPart_45 (by decide) ?_
  refine wh_bipush (pc := 46) (v := 7) d_Rd_takesPart_46 (by decide) ?_
  refine cv_Rd_26_d (pc := 48) rfl d_Rd_takesPart_48 ⟨⟨by decide, by decide⟩, rfl, rfl⟩ (c_goN) (Nat.le_of_ble_eq_true rfl) ?_
  refine wh_zret (pc := 51) d_Rd_takesPart_51 rfl rfl ?_
  exact ⟨_, rfl, FC.rf g, Or.inr ⟨(show rd3 n m T c = _ by unfold rd3; rw [if_neg c1, if_neg (fun z => c2 z.1)]), rfl⟩⟩
theorem c_tk0 {l : Launch} {D : va_G} {base : Nat} {g : Hp} {n m : Nat} {T : St} (r : RC g 0 n m T) (w : WR (0, n, m, T)) {c : Int32} : SI l D base M_Rd_takes [.ref 18, .int c, .ref 10] g (fun g' x => FC g g' ∧ ((∃ s' : RS, rdS 0 n m T c = some s' ∧ x = 1 ∧ RC g' s'.1 s'.2.1 s'.2.2.1 s'.2.2.2) ∨ (rdS 0 n m T c = none ∧ x = 0))) := by
  refine SP.of [some (.ref 18), some (.int c), some (.ref 10), none] (by decide) rfl (Nat.le_of_ble_eq_true rfl) ?_
  have wo := w
  obtain ⟨w1, w2, w3, w4, w5, w6, w7, w8, w9⟩ := w
  simp only at w1 w2 w3 w4 w5 w6 w7 w8 w9
  have ro := r
  obtain ⟨r1, r2, r3, r4, r5, r6, r7, r8, r9, r10⟩ := r
  by_cases c1 : c = 76
  · refine wh_aload_n (pc := 0) d_Rd_takes_0 rfl rfl ?_
    refine gf_Rd_11 (pc := 1) rfl d_Rd_takes_1 ?_
    refine wh_if_ne (pc := 4) (tgt := 24) d_Rd_takes_4 (by decide) (fun c_4 => absurd r1 c_4) (fun c_4 => ?_)
    refine wh_aload_n (pc := 7) d_Rd_takes_7 rfl rfl ?_
    refine wh_iload_n (pc := 8) d_Rd_takes_8 rfl rfl ?_
    refine wh_bipush (pc := 9) (v := 76) d_Rd_takes_9 (by decide) ?_
    refine wh_icmp_ne (pc := 11) (tgt := 18) d_Rd_takes_11 (by decide) (fun c_11 => absurd c1 c_11) (fun c_11 => ?_)
    refine wh_iconst (pc := 14) (v := 1) d_Rd_takes_14 (by decide) ?_
    refine wh_goto (pc := 15) (tgt := 19) d_Rd_takes_15 (by decide) ?_
    refine wh_iconst (pc := 19) (v := 1) d_Rd_takes_19 (by decide) ?_
    refine cv_Rd_26_d (pc := 20) rfl d_Rd_takes_20 ⟨⟨by decide, by decide⟩, rfl, rfl⟩ (c_goY) (Nat.le_of_ble_eq_true rfl) ?_
    refine wh_zret (pc := 23) d_Rd_takes_23 rfl rfl ?_
    refine ⟨_, rfl, (fc_sI (by unfold scC; omega)), Or.inl ⟨(1, n, m, T), (show (if c = 76 then _ else _) = _ by rw [if_pos c1]), rfl, ?_⟩⟩
    refine ⟨gI_sS _ _ _ _, ?_, ?_, ?_, ?_, ?_, ?_, ?_, ?_, ?_⟩ <;> simp only [gI_sI, setS] <;> grind
  · refine wh_aload_n (pc := 0) d_Rd_takes_0 rfl rfl ?_
    refine gf_Rd_11 (pc := 1) rfl d_Rd_takes_1 ?_
    refine wh_if_ne (pc := 4) (tgt := 24) d_Rd_takes_4 (by decide) (fun c_4 => absurd r1 c_4) (fun c_4 => ?_)
    refine wh_aload_n (pc := 7) d_Rd_takes_7 rfl rfl ?_
    refine wh_iload_n (pc := 8) d_Rd_takes_8 rfl rfl ?_
    refine wh_bipush (pc := 9) (v := 76) d_Rd_takes_9 (by decide) ?_
    refine wh_icmp_ne (pc := 11) (tgt := 18) d_Rd_takes_11 (by decide) (fun c_11 => ?_) (fun c_11 => absurd c_11 c1)
    refine wh_iconst (pc := 18) (v := 0) d_Rd_takes_18 (by decide) ?_
    refine wh_iconst (pc := 19) (v := 1) d_Rd_takes_19 (by decide) ?_
    refine cv_Rd_26_d (pc := 20) rfl d_Rd_takes_20 ⟨⟨by decide, by decide⟩, rfl, rfl⟩ (c_goN) (Nat.le_of_ble_eq_true rfl) ?_
    refine wh_zret (pc := 23) d_Rd_takes_23 rfl rfl ?_
    exact ⟨_, rfl, FC.rf g, Or.inr ⟨(show (if c = 76 then _ else _) = _ by rw [if_neg c1]), rfl⟩⟩
theorem c_tk3 {l : Launch} {D : va_G} {base : Nat} {g : Hp} {n m : Nat} {T : St} (r : RC g 3 n m T) (w : WR (3, n, m, T)) {c : Int32} : SI l D base M_Rd_takes [.ref 18, .int c, .ref 10] g (fun g' x => FC g g' ∧ ((∃ s' : RS, rdS 3 n m T c = some s' ∧ x = 1 ∧ RC g' s'.1 s'.2.1 s'.2.2.1 s'.2.2.2) ∨ (rdS 3 n m T c = none ∧ x = 0))) := by
  refine SP.of [some (.ref 18), some (.int c), some (.ref 10), none] (by decide) rfl (Nat.le_of_ble_eq_true rfl) ?_
  have r1 := r.1
  refine wh_aload_n (pc := 0) d_Rd_takes_0 rfl rfl ?_
  refine gf_Rd_11 (pc := 1) rfl d_Rd_takes_1 ?_
  refine wh_if_ne (pc := 4) (tgt := 24) d_Rd_takes_4 (by decide) (fun c_4 => ?_) (fun c_4 => absurd c_4 (by rw [r1]; decide))
  refine wh_aload_n (pc := 24) d_Rd_takes_24 rfl rfl ?_
  refine gf_Rd_11 (pc := 25) rfl d_Rd_takes_25 ?_
  refine wh_iconst (pc := 28) (v := 3) d_Rd_takes_28 (by decide) ?_
  refine wh_icmp_ne (pc := 29) (tgt := 39) d_Rd_takes_29 (by decide) (fun c_29 => absurd (by rw [r1]; rfl) c_29) (fun c_29 => ?_)
  refine wh_aload_n (pc := 32) d_Rd_takes_32 rfl rfl ?_
  refine wh_iload_n (pc := 33) d_Rd_takes_33 rfl rfl ?_
  refine wh_aload_n (pc := 34) d_Rd_takes_34 rfl rfl ?_
  refine cv_Rd_30_i (pc := 35) rfl d_Rd_takes_35 ⟨⟨by decide, by decide⟩, rfl, rfl⟩ (c_tp r w) (Nat.le_of_ble_eq_true rfl) (fun h_35 x_35 e_35 => ?_)
  refine wh_zret (pc := 38) d_Rd_takes_38 rfl (by rcases e_35.2 with ⟨s, z1, z2, z3⟩ | ⟨z1, z2⟩ <;> rw [z2] <;> rfl) ?_
  exact ⟨_, rfl, e_35⟩
theorem c_tk1 {l : Launch} {D : va_G} {base : Nat} {g : Hp} {n m : Nat} {T : St} (r : RC g 1 n m T) (w : WR (1, n, m, T)) {c : Int32} : SI l D base M_Rd_takes [.ref 18, .int c, .ref 10] g (fun g' x => FC g g' ∧ ((∃ s' : RS, rdS 1 n m T c = some s' ∧ x = 1 ∧ RC g' s'.1 s'.2.1 s'.2.2.1 s'.2.2.2) ∨ (rdS 1 n m T c = none ∧ x = 0))) := by
  refine SP.of [some (.ref 18), some (.int c), some (.ref 10), none] (by decide) rfl (Nat.le_of_ble_eq_true rfl) ?_
  have r1 := r.1
  rcases fg_em c 9 with hf | hf
  · obtain ⟨q, hq, hc⟩ := fg_d (by decide) hf
    refine wh_aload_n (pc := 0) d_Rd_takes_0 rfl rfl ?_
    refine gf_Rd_11 (pc := 1) rfl d_Rd_takes_1 ?_
    refine wh_if_ne (pc := 4) (tgt := 24) d_Rd_takes_4 (by decide) (fun c_4 => ?_) (fun c_4 => absurd c_4 (by rw [r1]; decide))
    refine wh_aload_n (pc := 24) d_Rd_takes_24 rfl rfl ?_
    refine gf_Rd_11 (pc := 25) rfl d_Rd_takes_25 ?_
    refine wh_iconst (pc := 28) (v := 3) d_Rd_takes_28 (by decide) ?_
    refine wh_icmp_ne (pc := 29) (tgt := 39) d_Rd_takes_29 (by decide) (fun c_29 => ?_) (fun c_29 => absurd c_29 (by rw [r1]; decide))
    refine wh_iload_n (pc := 39) d_Rd_takes_39 rfl rfl ?_
    refine wh_bipush (pc := 40) (v := 48) d_Rd_takes_40 (by decide) ?_
    refine wh_isub (pc := 42) d_Rd_takes_42 ?_
    rw [hc]
    refine wh_istore_n (pc := 43) (ls2 := [_, _, _, _]) d_Rd_takes_43 rfl (by decide) rfl rfl ?_
    refine wh_iload_n (pc := 44) d_Rd_takes_44 rfl rfl ?_
    refine wh_if_lt (pc := 45) (tgt := 54) d_Rd_takes_45 (by decide) (fun c_45 => absurd c_45 (nI_pos (by omega))) (fun c_45 => ?_)
    refine wh_iload_n (pc := 48) d_Rd_takes_48 rfl rfl ?_
    refine wh_bipush (pc := 49) (v := 9) d_Rd_takes_49 (by decide) ?_
    refine wh_icmp_le (pc := 51) (tgt := 56) d_Rd_takes_51 (by decide) (fun c_51 => ?_) (fun c_51 => absurd (nI_le (b := 9) hq (by decide)) c_51)
    refine wh_aload_n (pc := 56) d_Rd_takes_56 rfl rfl ?_
    refine wh_iload_n (pc := 57) d_Rd_takes_57 rfl rfl ?_
    refine wh_aload_n (pc := 58) d_Rd_takes_58 rfl rfl ?_
    refine cv_Rd_34_i (pc := 59) rfl d_Rd_takes_59 ⟨⟨by decide, by decide⟩, rfl, rfl⟩ (c_tf1 r w hq hc) (Nat.le_of_ble_eq_true rfl) (fun h_59 x_59 e_59 => ?_)
    refine wh_zret (pc := 62) d_Rd_takes_62 rfl (by rcases e_59.2 with ⟨s, z1, z2, z3⟩ | ⟨z1, z2⟩ <;> rw [z2] <;> rfl) ?_
    exact ⟨_, rfl, e_59⟩
  · have hn : rdS 1 n m T c = none := rd_nofig (by decide) (by decide) hf
    refine wh_aload_n (pc := 0) d_Rd_takes_0 rfl rfl ?_
    refine gf_Rd_11 (pc := 1) rfl d_Rd_takes_1 ?_
    refine wh_if_ne (pc := 4) (tgt := 24) d_Rd_takes_4 (by decide) (fun c_4 => ?_) (fun c_4 => absurd c_4 (by rw [r1]; decide))
    refine wh_aload_n (pc := 24) d_Rd_takes_24 rfl rfl ?_
    refine gf_Rd_11 (pc := 25) rfl d_Rd_takes_25 ?_
    refine wh_iconst (pc := 28) (v := 3) d_Rd_takes_28 (by decide) ?_
    refine wh_icmp_ne (pc := 29) (tgt := 39) d_Rd_takes_29 (by decide) (fun c_29 => ?_) (fun c_29 => absurd c_29 (by rw [r1]; decide))
    refine wh_iload_n (pc := 39) d_Rd_takes_39 rfl rfl ?_
    refine wh_bipush (pc := 40) (v := 48) d_Rd_takes_40 (by decide) ?_
    refine wh_isub (pc := 42) d_Rd_takes_42 ?_
    refine wh_istore_n (pc := 43) (ls2 := [_, _, _, _]) d_Rd_takes_43 rfl (by decide) rfl rfl ?_
    refine wh_iload_n (pc := 44) d_Rd_takes_44 rfl rfl ?_
    refine wh_if_lt (pc := 45) (tgt := 54) d_Rd_takes_45 (by decide) (fun c_45 => ?_) (fun c_45 => ?_)
    · refine wh_iconst (pc := 54) (v := 0) d_Rd_takes_54 (by decide) ?_
      refine wh_zret (pc := 55) d_Rd_takes_55 rfl rfl ?_
      exact ⟨_, rfl, FC.rf g, Or.inr ⟨hn, rfl⟩⟩
    · refine wh_iload_n (pc := 48) d_Rd_takes_48 rfl rfl ?_
      refine wh_bipush (pc := 49) (v := 9) d_Rd_takes_49 (by decide) ?_
      refine wh_icmp_le (pc := 51) (tgt := 56) d_Rd_takes_51 (by decide) (fun c_51 => ?_) (fun c_51 => ?_)
      · exact absurd (fun z => z.elim c_45 (fun z => by rw [i_lt] at z; rw [i_le] at c_51; have : (nI 9).toInt = (9 : Int32).toInt := rfl; omega)) hf
      · refine wh_iconst (pc := 54) (v := 0) d_Rd_takes_54 (by decide) ?_
        refine wh_zret (pc := 55) d_Rd_takes_55 rfl rfl ?_
        exact ⟨_, rfl, FC.rf g, Or.inr ⟨hn, rfl⟩⟩
theorem c_tk2 {l : Launch} {D : va_G} {base : Nat} {g : Hp} {n m : Nat} {T : St} (r : RC g 2 n m T) (w : WR (2, n, m, T)) {c : Int32} : SI l D base M_Rd_takes [.ref 18, .int c, .ref 10] g (fun g' x => FC g g' ∧ ((∃ s' : RS, rdS 2 n m T c = some s' ∧ x = 1 ∧ RC g' s'.1 s'.2.1 s'.2.2.1 s'.2.2.2) ∨ (rdS 2 n m T c = none ∧ x = 0))) := by
  refine SP.of [some (.ref 18), some (.int c), some (.ref 10), none] (by decide) rfl (Nat.le_of_ble_eq_true rfl) ?_
  have r1 := r.1
  rcases fg_em c 9 with hf | hf
  · obtain ⟨q, hq, hc⟩ := fg_d (by decide) hf
    refine wh_aload_n (pc := 0) d_Rd_takes_0 rfl rfl ?_
    refine gf_Rd_11 (pc := 1) rfl d_Rd_takes_1 ?_
    refine wh_if_ne (pc := 4) (tgt := 24) d_Rd_takes_4 (by decide) (fun c_4 => ?_) (fun c_4 => absurd c_4 (by rw [r1]; decide))
    refine wh_aload_n (pc := 24) d_Rd_takes_24 rfl rfl ?_
    refine gf_Rd_11 (pc := 25) rfl d_Rd_takes_25 ?_
    refine wh_iconst (pc := 28) (v := 3) d_Rd_takes_28 (by decide) ?_
    refine wh_icmp_ne (pc := 29) (tgt := 39) d_Rd_takes_29 (by decide) (fun c_29 => ?_) (fun c_29 => absurd c_29 (by rw [r1]; decide))
    refine wh_iload_n (pc := 39) d_Rd_takes_39 rfl rfl ?_
    refine wh_bipush (pc := 40) (v := 48) d_Rd_takes_40 (by decide) ?_
    refine wh_isub (pc := 42) d_Rd_takes_42 ?_
    rw [hc]
    refine wh_istore_n (pc := 43) (ls2 := [_, _, _, _]) d_Rd_takes_43 rfl (by decide) rfl rfl ?_
    refine wh_iload_n (pc := 44) d_Rd_takes_44 rfl rfl ?_
    refine wh_if_lt (pc := 45) (tgt := 54) d_Rd_takes_45 (by decide) (fun c_45 => absurd c_45 (nI_pos (by omega))) (fun c_45 => ?_)
    refine wh_iload_n (pc := 48) d_Rd_takes_48 rfl rfl ?_
    refine wh_bipush (pc := 49) (v := 9) d_Rd_takes_49 (by decide) ?_
    refine wh_icmp_le (pc := 51) (tgt := 56) d_Rd_takes_51 (by decide) (fun c_51 => ?_) (fun c_51 => absurd (nI_le (b := 9) hq (by decide)) c_51)
    refine wh_aload_n (pc := 56) d_Rd_takes_56 rfl rfl ?_
    refine wh_iload_n (pc := 57) d_Rd_takes_57 rfl rfl ?_
    refine wh_aload_n (pc := 58) d_Rd_takes_58 rfl rfl ?_
    refine cv_Rd_34_i (pc := 59) rfl d_Rd_takes_59 ⟨⟨by decide, by decide⟩, rfl, rfl⟩ (c_tf2 r w hq hc) (Nat.le_of_ble_eq_true rfl) (fun h_59 x_59 e_59 => ?_)
    refine wh_zret (pc := 62) d_Rd_takes_62 rfl (by rcases e_59.2 with ⟨s, z1, z2, z3⟩ | ⟨z1, z2⟩ <;> rw [z2] <;> rfl) ?_
    exact ⟨_, rfl, e_59⟩
  · have hn : rdS 2 n m T c = none := rd_nofig (by decide) (by decide) hf
    refine wh_aload_n (pc := 0) d_Rd_takes_0 rfl rfl ?_
    refine gf_Rd_11 (pc := 1) rfl d_Rd_takes_1 ?_
    refine wh_if_ne (pc := 4) (tgt := 24) d_Rd_takes_4 (by decide) (fun c_4 => ?_) (fun c_4 => absurd c_4 (by rw [r1]; decide))
    refine wh_aload_n (pc := 24) d_Rd_takes_24 rfl rfl ?_
    refine gf_Rd_11 (pc := 25) rfl d_Rd_takes_25 ?_
    refine wh_iconst (pc := 28) (v := 3) d_Rd_takes_28 (by decide) ?_
    refine wh_icmp_ne (pc := 29) (tgt := 39) d_Rd_takes_29 (by decide) (fun c_29 => ?_) (fun c_29 => absurd c_29 (by rw [r1]; decide))
    refine wh_iload_n (pc := 39) d_Rd_takes_39 rfl rfl ?_
    refine wh_bipush (pc := 40) (v := 48) d_Rd_takes_40 (by decide) ?_
    refine wh_isub (pc := 42) d_Rd_takes_42 ?_
    refine wh_istore_n (pc := 43) (ls2 := [_, _, _, _]) d_Rd_takes_43 rfl (by decide) rfl rfl ?_
    refine wh_iload_n (pc := 44) d_Rd_takes_44 rfl rfl ?_
    refine wh_if_lt (pc := 45) (tgt := 54) d_Rd_takes_45 (by decide) (fun c_45 => ?_) (fun c_45 => ?_)
    · refine wh_iconst (pc := 54) (v := 0) d_Rd_takes_54 (by decide) ?_
      refine wh_zret (pc := 55) d_Rd_takes_55 rfl rfl ?_
      exact ⟨_, rfl, FC.rf g, Or.inr ⟨hn, rfl⟩⟩
    · refine wh_iload_n (pc := 48) d_Rd_takes_48 rfl rfl ?_
      refine wh_bipush (pc := 49) (v := 9) d_Rd_takes_49 (by decide) ?_
      refine wh_icmp_le (pc := 51) (tgt := 56) d_Rd_takes_51 (by decide) (fun c_51 => ?_) (fun c_51 => ?_)
      · exact absurd (fun z => z.elim c_45 (fun z => by rw [i_lt] at z; rw [i_le] at c_51; have : (nI 9).toInt = (9 : Int32).toInt := rfl; omega)) hf
      · refine wh_iconst (pc := 54) (v := 0) d_Rd_takes_54 (by decide) ?_
        refine wh_zret (pc := 55) d_Rd_takes_55 rfl rfl ?_
        exact ⟨_, rfl, FC.rf g, Or.inr ⟨hn, rfl⟩⟩
theorem c_tk4 {l : Launch} {D : va_G} {base : Nat} {g : Hp} {n m : Nat} {T : St} (r : RC g 4 n m T) (w : WR (4, n, m, T)) {c : Int32} : SI l D base M_Rd_takes [.ref 18, .int c, .ref 10] g (fun g' x => FC g g' ∧ ((∃ s' : RS, rdS 4 n m T c = some s' ∧ x = 1 ∧ RC g' s'.1 s'.2.1 s'.2.2.1 s'.2.2.2) ∨ (rdS 4 n m T c = none ∧ x = 0))) := by
  refine SP.of [some (.ref 18), some (.int c), some (.ref 10), none] (by decide) rfl (Nat.le_of_ble_eq_true rfl) ?_
  have r1 := r.1
  rcases fg_em c 9 with hf | hf
  · obtain ⟨q, hq, hc⟩ := fg_d (by decide) hf
    refine wh_aload_n (pc := 0) d_Rd_takes_0 rfl rfl ?_
    refine gf_Rd_11 (pc := 1) rfl d_Rd_takes_1 ?_
    refine wh_if_ne (pc := 4) (tgt := 24) d_Rd_takes_4 (by decide) (fun c_4 => ?_) (fun c_4 => absurd c_4 (by rw [r1]; decide))
    refine wh_aload_n (pc := 24) d_Rd_takes_24 rfl rfl ?_
    refine gf_Rd_11 (pc := 25) rfl d_Rd_takes_25 ?_
    refine wh_iconst (pc := 28) (v := 3) d_Rd_takes_28 (by decide) ?_
    refine wh_icmp_ne (pc := 29) (tgt := 39) d_Rd_takes_29 (by decide) (fun c_29 => ?_) (fun c_29 => absurd c_29 (by rw [r1]; decide))
    refine wh_iload_n (pc := 39) d_Rd_takes_39 rfl rfl ?_
    refine wh_bipush (pc := 40) (v := 48) d_Rd_takes_40 (by decide) ?_
    refine wh_isub (pc := 42) d_Rd_takes_42 ?_
    rw [hc]
    refine wh_istore_n (pc := 43) (ls2 := [_, _, _, _]) d_Rd_takes_43 rfl (by decide) rfl rfl ?_
    refine wh_iload_n (pc := 44) d_Rd_takes_44 rfl rfl ?_
    refine wh_if_lt (pc := 45) (tgt := 54) d_Rd_takes_45 (by decide) (fun c_45 => absurd c_45 (nI_pos (by omega))) (fun c_45 => ?_)
    refine wh_iload_n (pc := 48) d_Rd_takes_48 rfl rfl ?_
    refine wh_bipush (pc := 49) (v := 9) d_Rd_takes_49 (by decide) ?_
    refine wh_icmp_le (pc := 51) (tgt := 56) d_Rd_takes_51 (by decide) (fun c_51 => ?_) (fun c_51 => absurd (nI_le (b := 9) hq (by decide)) c_51)
    refine wh_aload_n (pc := 56) d_Rd_takes_56 rfl rfl ?_
    refine wh_iload_n (pc := 57) d_Rd_takes_57 rfl rfl ?_
    refine wh_aload_n (pc := 58) d_Rd_takes_58 rfl rfl ?_
    refine cv_Rd_34_i (pc := 59) rfl d_Rd_takes_59 ⟨⟨by decide, by decide⟩, rfl, rfl⟩ (c_tf4 r w hq hc) (Nat.le_of_ble_eq_true rfl) (fun h_59 x_59 e_59 => ?_)
    refine wh_zret (pc := 62) d_Rd_takes_62 rfl (by rcases e_59.2 with ⟨s, z1, z2, z3⟩ | ⟨z1, z2⟩ <;> rw [z2] <;> rfl) ?_
    exact ⟨_, rfl, e_59⟩
  · have hn : rdS 4 n m T c = none := rd_nofig (by decide) (by decide) hf
    refine wh_aload_n (pc := 0) d_Rd_takes_0 rfl rfl ?_
    refine gf_Rd_11 (pc := 1) rfl d_Rd_takes_1 ?_
    refine wh_if_ne (pc := 4) (tgt := 24) d_Rd_takes_4 (by decide) (fun c_4 => ?_) (fun c_4 => absurd c_4 (by rw [r1]; decide))
    refine wh_aload_n (pc := 24) d_Rd_takes_24 rfl rfl ?_
    refine gf_Rd_11 (pc := 25) rfl d_Rd_takes_25 ?_
    refine wh_iconst (pc := 28) (v := 3) d_Rd_takes_28 (by decide) ?_
    refine wh_icmp_ne (pc := 29) (tgt := 39) d_Rd_takes_29 (by decide) (fun c_29 => ?_) (fun c_29 => absurd c_29 (by rw [r1]; decide))
    refine wh_iload_n (pc := 39) d_Rd_takes_39 rfl rfl ?_
    refine wh_bipush (pc := 40) (v := 48) d_Rd_takes_40 (by decide) ?_
    refine wh_isub (pc := 42) d_Rd_takes_42 ?_
    refine wh_istore_n (pc := 43) (ls2 := [_, _, _, _]) d_Rd_takes_43 rfl (by decide) rfl rfl ?_
    refine wh_iload_n (pc := 44) d_Rd_takes_44 rfl rfl ?_
    refine wh_if_lt (pc := 45) (tgt := 54) d_Rd_takes_45 (by decide) (fun c_45 => ?_) (fun c_45 => ?_)
    · refine wh_iconst (pc := 54) (v := 0) d_Rd_takes_54 (by decide) ?_
      refine wh_zret (pc := 55) d_Rd_takes_55 rfl rfl ?_
      exact ⟨_, rfl, FC.rf g, Or.inr ⟨hn, rfl⟩⟩
    · refine wh_iload_n (pc := 48) d_Rd_takes_48 rfl rfl ?_
      refine wh_bipush (pc := 49) (v := 9) d_Rd_takes_49 (by decide) ?_
      refine wh_icmp_le (pc := 51) (tgt := 56) d_Rd_takes_51 (by decide) (fun c_51 => ?_) (fun c_51 => ?_)
      · exact absurd (fun z => z.elim c_45 (fun z => by rw [i_lt] at z; rw [i_le] at c_51; have : (nI 9).toInt = (9 : Int32).toInt := rfl; omega)) hf
      · refine wh_iconst (pc := 54) (v := 0) d_Rd_takes_54 (by decide) ?_
        refine wh_zret (pc := 55) d_Rd_takes_55 rfl rfl ?_
        exact ⟨_, rfl, FC.rf g, Or.inr ⟨hn, rfl⟩⟩
theorem c_tk5 {l : Launch} {D : va_G} {base : Nat} {g : Hp} {n m : Nat} {T : St} (r : RC g 5 n m T) (w : WR (5, n, m, T)) {c : Int32} : SI l D base M_Rd_takes [.ref 18, .int c, .ref 10] g (fun g' x => FC g g' ∧ ((∃ s' : RS, rdS 5 n m T c = some s' ∧ x = 1 ∧ RC g' s'.1 s'.2.1 s'.2.2.1 s'.2.2.2) ∨ (rdS 5 n m T c = none ∧ x = 0))) := by
  refine SP.of [some (.ref 18), some (.int c), some (.ref 10), none] (by decide) rfl (Nat.le_of_ble_eq_true rfl) ?_
  have r1 := r.1
  rcases fg_em c 9 with hf | hf
  · obtain ⟨q, hq, hc⟩ := fg_d (by decide) hf
    refine wh_aload_n (pc := 0) d_Rd_takes_0 rfl rfl ?_
    refine gf_Rd_11 (pc := 1) rfl d_Rd_takes_1 ?_
    refine wh_if_ne (pc := 4) (tgt := 24) d_Rd_takes_4 (by decide) (fun c_4 => ?_) (fun c_4 => absurd c_4 (by rw [r1]; decide))
    refine wh_aload_n (pc := 24) d_Rd_takes_24 rfl rfl ?_
    refine gf_Rd_11 (pc := 25) rfl d_Rd_takes_25 ?_
    refine wh_iconst (pc := 28) (v := 3) d_Rd_takes_28 (by decide) ?_
    refine wh_icmp_ne (pc := 29) (tgt := 39) d_Rd_takes_29 (by decide) (fun c_29 => ?_) (fun c_29 => absurd c_29 (by rw [r1]; decide))
    refine wh_iload_n (pc := 39) d_Rd_takes_39 rfl rfl ?_
    refine wh_bipush (pc := 40) (v := 48) d_Rd_takes_40 (by decide) ?_
    refine wh_isub (pc := 42) d_Rd_takes_42 ?_
    rw [hc]
    refine wh_istore_n (pc := 43) (ls2 := [_, _, _, _]) d_Rd_takes_43 rfl (by decide) rfl rfl ?_
    refine wh_iload_n (pc := 44) d_Rd_takes_44 rfl rfl ?_
    refine wh_if_lt (pc := 45) (tgt := 54) d_Rd_takes_45 (by decide) (fun c_45 => absurd c_45 (nI_pos (by omega))) (fun c_45 => ?_)
    refine wh_iload_n (pc := 48) d_Rd_takes_48 rfl rfl ?_
    refine wh_bipush (pc := 49) (v := 9) d_Rd_takes_49 (by decide) ?_
    refine wh_icmp_le (pc := 51) (tgt := 56) d_Rd_takes_51 (by decide) (fun c_51 => ?_) (fun c_51 => absurd (nI_le (b := 9) hq (by decide)) c_51)
    refine wh_aload_n (pc := 56) d_Rd_takes_56 rfl rfl ?_
    refine wh_iload_n (pc := 57) d_Rd_takes_57 rfl rfl ?_
    refine wh_aload_n (pc := 58) d_Rd_takes_58 rfl rfl ?_
    refine cv_Rd_34_i (pc := 59) rfl d_Rd_takes_59 ⟨⟨by decide, by decide⟩, rfl, rfl⟩ (c_tf5 r w hq hc) (Nat.le_of_ble_eq_true rfl) (fun h_59 x_59 e_59 => ?_)
    refine wh_zret (pc := 62) d_Rd_takes_62 rfl (by rcases e_59.2 with ⟨s, z1, z2, z3⟩ | ⟨z1, z2⟩ <;> rw [z2] <;> rfl) ?_
    exact ⟨_, rfl, e_59⟩
  · have hn : rdS 5 n m T c = none := rd_nofig (by decide) (by decide) hf
    refine wh_aload_n (pc := 0) d_Rd_takes_0 rfl rfl ?_
    refine gf_Rd_11 (pc := 1) rfl d_Rd_takes_1 ?_
    refine wh_if_ne (pc := 4) (tgt := 24) d_Rd_takes_4 (by decide) (fun c_4 => ?_) (fun c_4 => absurd c_4 (by rw [r1]; decide))
    refine wh_aload_n (pc := 24) d_Rd_takes_24 rfl rfl ?_
    refine gf_Rd_11 (pc := 25) rfl d_Rd_takes_25 ?_
    refine wh_iconst (pc := 28) (v := 3) d_Rd_takes_28 (by decide) ?_
    refine wh_icmp_ne (pc := 29) (tgt := 39) d_Rd_takes_29 (by decide) (fun c_29 => ?_) (fun c_29 => absurd c_29 (by rw [r1]; decide))
    refine wh_iload_n (pc := 39) d_Rd_takes_39 rfl rfl ?_
    refine wh_bipush (pc := 40) (v := 48) d_Rd_takes_40 (by decide) ?_
    refine wh_isub (pc := 42) d_Rd_takes_42 ?_
    refine wh_istore_n (pc := 43) (ls2 := [_, _, _, _]) d_Rd_takes_43 rfl (by decide) rfl rfl ?_
    refine wh_iload_n (pc := 44) d_Rd_takes_44 rfl rfl ?_
    refine wh_if_lt (pc := 45) (tgt := 54) d_Rd_takes_45 (by decide) (fun c_45 => ?_) (fun c_45 => ?_)
    · refine wh_iconst (pc := 54) (v := 0) d_Rd_takes_54 (by decide) ?_
      refine wh_zret (pc := 55) d_Rd_takes_55 rfl rfl ?_
      exact ⟨_, rfl, FC.rf g, Or.inr ⟨hn, rfl⟩⟩
    · refine wh_iload_n (pc := 48) d_Rd_takes_48 rfl rfl ?_
      refine wh_bipush (pc := 49) (v := 9) d_Rd_takes_49 (by decide) ?_
      refine wh_icmp_le (pc := 51) (tgt := 56) d_Rd_takes_51 (by decide) (fun c_51 => ?_) (fun c_51 => ?_)
      · exact absurd (fun z => z.elim c_45 (fun z => by rw [i_lt] at z; rw [i_le] at c_51; have : (nI 9).toInt = (9 : Int32).toInt := rfl; omega)) hf
      · refine wh_iconst (pc := 54) (v := 0) d_Rd_takes_54 (by decide) ?_
        refine wh_zret (pc := 55) d_Rd_takes_55 rfl rfl ?_
        exact ⟨_, rfl, FC.rf g, Or.inr ⟨hn, rfl⟩⟩
theorem c_tk6 {l : Launch} {D : va_G} {base : Nat} {g : Hp} {n m : Nat} {T : St} (r : RC g 6 n m T) (w : WR (6, n, m, T)) {c : Int32} : SI l D base M_Rd_takes [.ref 18, .int c, .ref 10] g (fun g' x => FC g g' ∧ ((∃ s' : RS, rdS 6 n m T c = some s' ∧ x = 1 ∧ RC g' s'.1 s'.2.1 s'.2.2.1 s'.2.2.2) ∨ (rdS 6 n m T c = none ∧ x = 0))) := by
  refine SP.of [some (.ref 18), some (.int c), some (.ref 10), none] (by decide) rfl (Nat.le_of_ble_eq_true rfl) ?_
  have r1 := r.1
  rcases fg_em c 9 with hf | hf
  · obtain ⟨q, hq, hc⟩ := fg_d (by decide) hf
    refine wh_aload_n (pc := 0) d_Rd_takes_0 rfl rfl ?_
    refine gf_Rd_11 (pc := 1) rfl d_Rd_takes_1 ?_
    refine wh_if_ne (pc := 4) (tgt := 24) d_Rd_takes_4 (by decide) (fun c_4 => ?_) (fun c_4 => absurd c_4 (by rw [r1]; decide))
    refine wh_aload_n (pc := 24) d_Rd_takes_24 rfl rfl ?_
    refine gf_Rd_11 (pc := 25) rfl d_Rd_takes_25 ?_
    refine wh_iconst (pc := 28) (v := 3) d_Rd_takes_28 (by decide) ?_
    refine wh_icmp_ne (pc := 29) (tgt := 39) d_Rd_takes_29 (by decide) (fun c_29 => ?_) (fun c_29 => absurd c_29 (by rw [r1]; decide))
    refine wh_iload_n (pc := 39) d_Rd_takes_39 rfl rfl ?_
    refine wh_bipush (pc := 40) (v := 48) d_Rd_takes_40 (by decide) ?_
    refine wh_isub (pc := 42) d_Rd_takes_42 ?_
    rw [hc]
    refine wh_istore_n (pc := 43) (ls2 := [_, _, _, _]) d_Rd_takes_43 rfl (by decide) rfl rfl ?_
    refine wh_iload_n (pc := 44) d_Rd_takes_44 rfl rfl ?_
    refine wh_if_lt (pc := 45) (tgt := 54) d_Rd_takes_45 (by decide) (fun c_45 => absurd c_45 (nI_pos (by omega))) (fun c_45 => ?_)
    refine wh_iload_n (pc := 48) d_Rd_takes_48 rfl rfl ?_
    refine wh_bipush (pc := 49) (v := 9) d_Rd_takes_49 (by decide) ?_
    refine wh_icmp_le (pc := 51) (tgt := 56) d_Rd_takes_51 (by decide) (fun c_51 => ?_) (fun c_51 => absurd (nI_le (b := 9) hq (by decide)) c_51)
    refine wh_aload_n (pc := 56) d_Rd_takes_56 rfl rfl ?_
    refine wh_iload_n (pc := 57) d_Rd_takes_57 rfl rfl ?_
    refine wh_aload_n (pc := 58) d_Rd_takes_58 rfl rfl ?_
    refine cv_Rd_34_i (pc := 59) rfl d_Rd_takes_59 ⟨⟨by decide, by decide⟩, rfl, rfl⟩ (c_tf6 r w hq hc) (Nat.le_of_ble_eq_true rfl) (fun h_59 x_59 e_59 => ?_)
    refine wh_zret (pc := 62) d_Rd_takes_62 rfl (by rcases e_59.2 with ⟨s, z1, z2, z3⟩ | ⟨z1, z2⟩ <;> rw [z2] <;> rfl) ?_
    exact ⟨_, rfl, e_59⟩
  · have hn : rdS 6 n m T c = none := rd_nofig (by decide) (by decide) hf
    refine wh_aload_n (pc := 0) d_Rd_takes_0 rfl rfl ?_
    refine gf_Rd_11 (pc := 1) rfl d_Rd_takes_1 ?_
    refine wh_if_ne (pc := 4) (tgt := 24) d_Rd_takes_4 (by decide) (fun c_4 => ?_) (fun c_4 => absurd c_4 (by rw [r1]; decide))
    refine wh_aload_n (pc := 24) d_Rd_takes_24 rfl rfl ?_
    refine gf_Rd_11 (pc := 25) rfl d_Rd_takes_25 ?_
    refine wh_iconst (pc := 28) (v := 3) d_Rd_takes_28 (by decide) ?_
    refine wh_icmp_ne (pc := 29) (tgt := 39) d_Rd_takes_29 (by decide) (fun c_29 => ?_) (fun c_29 => absurd c_29 (by rw [r1]; decide))
    refine wh_iload_n (pc := 39) d_Rd_takes_39 rfl rfl ?_
    refine wh_bipush (pc := 40) (v := 48) d_Rd_takes_40 (by decide) ?_
    refine wh_isub (pc := 42) d_Rd_takes_42 ?_
    refine wh_istore_n (pc := 43) (ls2 := [_, _, _, _]) d_Rd_takes_43 rfl (by decide) rfl rfl ?_
    refine wh_iload_n (pc := 44) d_Rd_takes_44 rfl rfl ?_
    refine wh_if_lt (pc := 45) (tgt := 54) d_Rd_takes_45 (by decide) (fun c_45 => ?_) (fun c_45 => ?_)
    · refine wh_iconst (pc := 54) (v := 0) d_Rd_takes_54 (by decide) ?_
      refine wh_zret (pc := 55) d_Rd_takes_55 rfl rfl ?_
      exact ⟨_, rfl, FC.rf g, Or.inr ⟨hn, rfl⟩⟩
    · refine wh_iload_n (pc := 48) d_Rd_takes_48 rfl rfl ?_
      refine wh_bipush (pc := 49) (v := 9) d_Rd_takes_49 (by decide) ?_
      refine wh_icmp_le (pc := 51) (tgt := 56) d_Rd_takes_51 (by decide) (fun c_51 => ?_) (fun c_51 => ?_)
      · exact absurd (fun z => z.elim c_45 (fun z => by rw [i_lt] at z; rw [i_le] at c_51; have : (nI 9).toInt = (9 : Int32).toInt := rfl; omega)) hf
      · refine wh_iconst (pc := 54) (v := 0) d_Rd_takes_54 (by decide) ?_
        refine wh_zret (pc := 55) d_Rd_takes_55 rfl rfl ?_
        exact ⟨_, rfl, FC.rf g, Or.inr ⟨hn, rfl⟩⟩
theorem c_tk7 {l : Launch} {D : va_G} {base : Nat} {g : Hp} {n m : Nat} {T : St} (r : RC g 7 n m T) (w : WR (7, n, m, T)) {c : Int32} : SI l D base M_Rd_takes [.ref 18, .int c, .ref 10] g (fun g' x => FC g g' ∧ ((∃ s' : RS, rdS 7 n m T c = some s' ∧ x = 1 ∧ RC g' s'.1 s'.2.1 s'.2.2.1 s'.2.2.2) ∨ (rdS 7 n m T c = none ∧ x = 0))) := by
  refine SP.of [some (.ref 18), some (.int c), some (.ref 10), none] (by decide) rfl (Nat.le_of_ble_eq_true rfl) ?_
  have r1 := r.1
  rcases fg_em c 9 with hf | hf
  · obtain ⟨q, hq, hc⟩ := fg_d (by decide) hf
    refine wh_aload_n (pc := 0) d_Rd_takes_0 rfl rfl ?_
    refine gf_Rd_11 (pc := 1) rfl d_Rd_takes_1 ?_
    refine wh_if_ne (pc := 4) (tgt := 24) d_Rd_takes_4 (by decide) (fun c_4 => ?_) (fun c_4 => absurd c_4 (by rw [r1]; decide))
    refine wh_aload_n (pc := 24) d_Rd_takes_24 rfl rfl ?_
    refine gf_Rd_11 (pc := 25) rfl d_Rd_takes_25 ?_
    refine wh_iconst (pc := 28) (v := 3) d_Rd_takes_28 (by decide) ?_
    refine wh_icmp_ne (pc := 29) (tgt := 39) d_Rd_takes_29 (by decide) (fun c_29 => ?_) (fun c_29 => absurd c_29 (by rw [r1]; decide))
    refine wh_iload_n (pc := 39) d_Rd_takes_39 rfl rfl ?_
    refine wh_bipush (pc := 40) (v := 48) d_Rd_takes_40 (by decide) ?_
    refine wh_isub (pc := 42) d_Rd_takes_42 ?_
    rw [hc]
    refine wh_istore_n (pc := 43) (ls2 := [_, _, _, _]) d_Rd_takes_43 rfl (by decide) rfl rfl ?_
    refine wh_iload_n (pc := 44) d_Rd_takes_44 rfl rfl ?_
    refine wh_if_lt (pc := 45) (tgt := 54) d_Rd_takes_45 (by decide) (fun c_45 => absurd c_45 (nI_pos (by omega))) (fun c_45 => ?_)
    refine wh_iload_n (pc := 48) d_Rd_takes_48 rfl rfl ?_
    refine wh_bipush (pc := 49) (v := 9) d_Rd_takes_49 (by decide) ?_
    refine wh_icmp_le (pc := 51) (tgt := 56) d_Rd_takes_51 (by decide) (fun c_51 => ?_) (fun c_51 => absurd (nI_le (b := 9) hq (by decide)) c_51)
    refine wh_aload_n (pc := 56) d_Rd_takes_56 rfl rfl ?_
    refine wh_iload_n (pc := 57) d_Rd_takes_57 rfl rfl ?_
    refine wh_aload_n (pc := 58) d_Rd_takes_58 rfl rfl ?_
    refine cv_Rd_34_i (pc := 59) rfl d_Rd_takes_59 ⟨⟨by decide, by decide⟩, rfl, rfl⟩ (c_tf7 r w hq hc) (Nat.le_of_ble_eq_true rfl) (fun h_59 x_59 e_59 => ?_)
    refine wh_zret (pc := 62) d_Rd_takes_62 rfl (by rcases e_59.2 with ⟨s, z1, z2, z3⟩ | ⟨z1, z2⟩ <;> rw [z2] <;> rfl) ?_
    exact ⟨_, rfl, e_59⟩
  · have hn : rdS 7 n m T c = none := rd_nofig (by decide) (by decide) hf
    refine wh_aload_n (pc := 0) d_Rd_takes_0 rfl rfl ?_
    refine gf_Rd_11 (pc := 1) rfl d_Rd_takes_1 ?_
    refine wh_if_ne (pc := 4) (tgt := 24) d_Rd_takes_4 (by decide) (fun c_4 => ?_) (fun c_4 => absurd c_4 (by rw [r1]; decide))
    refine wh_aload_n (pc := 24) d_Rd_takes_24 rfl rfl ?_
    refine gf_Rd_11 (pc := 25) rfl d_Rd_takes_25 ?_
    refine wh_iconst (pc := 28) (v := 3) d_Rd_takes_28 (by decide) ?_
    refine wh_icmp_ne (pc := 29) (tgt := 39) d_Rd_takes_29 (by decide) (fun c_29 => ?_) (fun c_29 => absurd c_29 (by rw [r1]; decide))
    refine wh_iload_n (pc := 39) d_Rd_takes_39 rfl rfl ?_
    refine wh_bipush (pc := 40) (v := 48) d_Rd_takes_40 (by decide) ?_
    refine wh_isub (pc := 42) d_Rd_takes_42 ?_
    refine wh_istore_n (pc := 43) (ls2 := [_, _, _, _]) d_Rd_takes_43 rfl (by decide) rfl rfl ?_
    refine wh_iload_n (pc := 44) d_Rd_takes_44 rfl rfl ?_
    refine wh_if_lt (pc := 45) (tgt := 54) d_Rd_takes_45 (by decide) (fun c_45 => ?_) (fun c_45 => ?_)
    · refine wh_iconst (pc := 54) (v := 0) d_Rd_takes_54 (by decide) ?_
      refine wh_zret (pc := 55) d_Rd_takes_55 rfl rfl ?_
      exact ⟨_, rfl, FC.rf g, Or.inr ⟨hn, rfl⟩⟩
    · refine wh_iload_n (pc := 48) d_Rd_takes_48 rfl rfl ?_
      refine wh_bipush (pc := 49) (v := 9) d_Rd_takes_49 (by decide) ?_
      refine wh_icmp_le (pc := 51) (tgt := 56) d_Rd_takes_51 (by decide) (fun c_51 => ?_) (fun c_51 => ?_)
      · exact absurd (fun z => z.elim c_45 (fun z => by rw [i_lt] at z; rw [i_le] at c_51; have : (nI 9).toInt = (9 : Int32).toInt := rfl; omega)) hf
      · refine wh_iconst (pc := 54) (v := 0) d_Rd_takes_54 (by decide) ?_
        refine wh_zret (pc := 55) d_Rd_takes_55 rfl rfl ?_
        exact ⟨_, rfl, FC.rf g, Or.inr ⟨hn, rfl⟩⟩
theorem c_tk8 {l : Launch} {D : va_G} {base : Nat} {g : Hp} {n m : Nat} {T : St} (r : RC g 8 n m T) (w : WR (8, n, m, T)) {c : Int32} : SI l D base M_Rd_takes [.ref 18, .int c, .ref 10] g (fun g' x => FC g g' ∧ ((∃ s' : RS, rdS 8 n m T c = some s' ∧ x = 1 ∧ RC g' s'.1 s'.2.1 s'.2.2.1 s'.2.2.2) ∨ (rdS 8 n m T c = none ∧ x = 0))) := by
  refine SP.of [some (.ref 18), some (.int c), some (.ref 10), none] (by decide) rfl (Nat.le_of_ble_eq_true rfl) ?_
  have r1 := r.1
  rcases fg_em c 9 with hf | hf
  · obtain ⟨q, hq, hc⟩ := fg_d (by decide) hf
    refine wh_aload_n (pc := 0) d_Rd_takes_0 rfl rfl ?_
    refine gf_Rd_11 (pc := 1) rfl d_Rd_takes_1 ?_
    refine wh_if_ne (pc := 4) (tgt := 24) d_Rd_takes_4 (by decide) (fun c_4 => ?_) (fun c_4 => absurd c_4 (by rw [r1]; decide))
    refine wh_aload_n (pc := 24) d_Rd_takes_24 rfl rfl ?_
    refine gf_Rd_11 (pc := 25) rfl d_Rd_takes_25 ?_
    refine wh_iconst (pc := 28) (v := 3) d_Rd_takes_28 (by decide) ?_
    refine wh_icmp_ne (pc := 29) (tgt := 39) d_Rd_takes_29 (by decide) (fun c_29 => ?_) (fun c_29 => absurd c_29 (by rw [r1]; decide))
    refine wh_iload_n (pc := 39) d_Rd_takes_39 rfl rfl ?_
    refine wh_bipush (pc := 40) (v := 48) d_Rd_takes_40 (by decide) ?_
    refine wh_isub (pc := 42) d_Rd_takes_42 ?_
    rw [hc]
    refine wh_istore_n (pc := 43) (ls2 := [_, _, _, _]) d_Rd_takes_43 rfl (by decide) rfl rfl ?_
    refine wh_iload_n (pc := 44) d_Rd_takes_44 rfl rfl ?_
    refine wh_if_lt (pc := 45) (tgt := 54) d_Rd_takes_45 (by decide) (fun c_45 => absurd c_45 (nI_pos (by omega))) (fun c_45 => ?_)
    refine wh_iload_n (pc := 48) d_Rd_takes_48 rfl rfl ?_
    refine wh_bipush (pc := 49) (v := 9) d_Rd_takes_49 (by decide) ?_
    refine wh_icmp_le (pc := 51) (tgt := 56) d_Rd_takes_51 (by decide) (fun c_51 => ?_) (fun c_51 => absurd (nI_le (b := 9) hq (by decide)) c_51)
    refine wh_aload_n (pc := 56) d_Rd_takes_56 rfl rfl ?_
    refine wh_iload_n (pc := 57) d_Rd_takes_57 rfl rfl ?_
    refine wh_aload_n (pc := 58) d_Rd_takes_58 rfl rfl ?_
    refine cv_Rd_34_i (pc := 59) rfl d_Rd_takes_59 ⟨⟨by decide, by decide⟩, rfl, rfl⟩ (c_tf8 r w hq hc) (Nat.le_of_ble_eq_true rfl) (fun h_59 x_59 e_59 => ?_)
    refine wh_zret (pc := 62) d_Rd_takes_62 rfl (by rcases e_59.2 with ⟨s, z1, z2, z3⟩ | ⟨z1, z2⟩ <;> rw [z2] <;> rfl) ?_
    exact ⟨_, rfl, e_59⟩
  · have hn : rdS 8 n m T c = none := rd_nofig (by decide) (by decide) hf
    refine wh_aload_n (pc := 0) d_Rd_takes_0 rfl rfl ?_
    refine gf_Rd_11 (pc := 1) rfl d_Rd_takes_1 ?_
    refine wh_if_ne (pc := 4) (tgt := 24) d_Rd_takes_4 (by decide) (fun c_4 => ?_) (fun c_4 => absurd c_4 (by rw [r1]; decide))
    refine wh_aload_n (pc := 24) d_Rd_takes_24 rfl rfl ?_
    refine gf_Rd_11 (pc := 25) rfl d_Rd_takes_25 ?_
    refine wh_iconst (pc := 28) (v := 3) d_Rd_takes_28 (by decide) ?_
    refine wh_icmp_ne (pc := 29) (tgt := 39) d_Rd_takes_29 (by decide) (fun c_29 => ?_) (fun c_29 => absurd c_29 (by rw [r1]; decide))
    refine wh_iload_n (pc := 39) d_Rd_takes_39 rfl rfl ?_
    refine wh_bipush (pc := 40) (v := 48) d_Rd_takes_40 (by decide) ?_
    refine wh_isub (pc := 42) d_Rd_takes_42 ?_
    refine wh_istore_n (pc := 43) (ls2 := [_, _, _, _]) d_Rd_takes_43 rfl (by decide) rfl rfl ?_
    refine wh_iload_n (pc := 44) d_Rd_takes_44 rfl rfl ?_
    refine wh_if_lt (pc := 45) (tgt := 54) d_Rd_takes_45 (by decide) (fun c_45 => ?_) (fun c_45 => ?_)
    · refine wh_iconst (pc := 54) (v := 0) d_Rd_takes_54 (by decide) ?_
      refine wh_zret (pc := 55) d_Rd_takes_55 rfl rfl ?_
      exact ⟨_, rfl, FC.rf g, Or.inr ⟨hn, rfl⟩⟩
    · refine wh_iload_n (pc := 48) d_Rd_takes_48 rfl rfl ?_
      refine wh_bipush (pc := 49) (v := 9) d_Rd_takes_49 (by decide) ?_
      refine wh_icmp_le (pc := 51) (tgt := 56) d_Rd_takes_51 (by decide) (fun c_51 => ?_) (fun c_51 => ?_)
      · exact absurd (fun z => z.elim c_45 (fun z => by rw [i_lt] at z; rw [i_le] at c_51; have : (nI 9).toInt = (9 : Int32).toInt := rfl; omega)) hf
      · refine wh_iconst (pc := 54) (v := 0) d_Rd_takes_54 (by decide) ?_
        refine wh_zret (pc := 55) d_Rd_takes_55 rfl rfl ?_
        exact ⟨_, rfl, FC.rf g, Or.inr ⟨hn, rfl⟩⟩
theorem c_takes {l : Launch} {D : va_G} {base : Nat} {g : Hp} {d n m : Nat} {T : St} (r : RC g d n m T) (w : WR (d, n, m, T)) {c : Int32} : SI l D base M_Rd_takes [.ref 18, .int c, .ref 10] g (fun g' x => FC g g' ∧ ((∃ s' : RS, rdS d n m T c = some s' ∧ x = 1 ∧ RC g' s'.1 s'.2.1 s'.2.2.1 s'.2.2.2) ∨ (rdS d n m T c = none ∧ x = 0))) := by
  have hd : d ≤ 8 := w.1
  rcases (show d = 0 ∨ d = 1 ∨ d = 2 ∨ d = 3 ∨ d = 4 ∨ d = 5 ∨ d = 6 ∨ d = 7 ∨ d = 8 by omega) with rfl | rfl | rfl | rfl | rfl | rfl | rfl | rfl | rfl
  · exact c_tk0 r w
  · exact c_tk1 r w
  · exact c_tk2 r w
  · exact c_tk3 r w
  · exact c_tk4 r w
  · exact c_tk5 r w
  · exact c_tk6 r w
  · exact c_tk7 r w
  · exact c_tk8 r w
theorem c_begin {l : Launch} {D : va_G} {base : Nat} {h : Hp} : SD l D base M_Rd_begin [.ref 18, .ref 10] h none (sI (sI (sI (sI (sI (sI h 10 6 0) 10 7 0) 10 8 1) 10 9 9) 10 10 0) 18 0 0) := by
  refine SP.of [some (.ref 18), some (.ref 10)] (by decide) rfl (Nat.le_of_ble_eq_true rfl) ?_
  refine wh_aload_n (pc := 0) d_Rd_begin_0 rfl rfl ?_
  refine cv_Rd_21_d (pc := 1) (Or.inr rfl) rfl d_Rd_begin_1 ⟨⟨by decide, by decide⟩, rfl, rfl⟩ (s_clear (Or.inr rfl)) (Nat.le_of_ble_eq_true rfl) ?_
  refine wh_aload_n (pc := 4) d_Rd_begin_4 rfl rfl ?_
  refine wh_iconst (pc := 5) (v := 0) d_Rd_begin_5 (by decide) ?_
  refine pf_Rd_11 (pc := 6) rfl d_Rd_begin_6 ?_
  refine wh_vret (pc := 9) d_Rd_begin_9 rfl ?_
  exact ⟨rfl, rfl⟩
theorem c_mayEnd {l : Launch} {D : va_G} {base : Nat} {h : Hp} {d : Nat} (hd : gI h 18 0 = nI d) (h8 : d ≤ 8) : SD l D base M_Rd_mayEnd [.ref 18] h (some (.int (if d = 3 then 1 else 0))) h := by
  refine SP.of [some (.ref 18)] (by decide) rfl (Nat.le_of_ble_eq_true rfl) ?_
  by_cases e : d = 3
  · refine wh_aload_n (pc := 0) d_Rd_mayEnd_0 rfl rfl ?_
    refine gf_Rd_11 (pc := 1) rfl d_Rd_mayEnd_1 ?_
    refine wh_iconst (pc := 4) (v := 3) d_Rd_mayEnd_4 (by decide) ?_
    refine wh_icmp_ne (pc := 5) (tgt := 12) d_Rd_mayEnd_5 (by decide) (fun c_5 => absurd (by rw [hd, e]; rfl) c_5) (fun c_5 => ?_)
    refine wh_iconst (pc := 8) (v := 1) d_Rd_mayEnd_8 (by decide) ?_
    refine wh_goto (pc := 9) (tgt := 13) d_Rd_mayEnd_9 (by decide) ?_
    refine wh_zret (pc := 13) d_Rd_mayEnd_13 rfl rfl ?_
    refine ⟨rfl, ?_⟩
    rw [if_pos e]
  · refine wh_aload_n (pc := 0) d_Rd_mayEnd_0 rfl rfl ?_
    refine gf_Rd_11 (pc := 1) rfl d_Rd_mayEnd_1 ?_
    refine wh_iconst (pc := 4) (v := 3) d_Rd_mayEnd_4 (by decide) ?_
    refine wh_icmp_ne (pc := 5) (tgt := 12) d_Rd_mayEnd_5 (by decide) (fun c_5 => ?_) (fun c_5 => absurd c_5 (by rw [hd]; exact fun z => e ((nI_eq (b := 3) (by omega) (by decide)).mp z)))
    refine wh_iconst (pc := 12) (v := 0) d_Rd_mayEnd_12 (by decide) ?_
    refine wh_zret (pc := 13) d_Rd_mayEnd_13 rfl rfl ?_
    refine ⟨rfl, ?_⟩
    rw [if_neg e]
theorem c_readInto {l : Launch} {D : va_G} {base : Nat} {h : Hp} {len : Nat} (hl : gI h 0 1 = nI len) (h56 : len ≤ 56) : SI l D base M_Lm_readInto [.ref 0, .ref 10] h (fun g x => FC h g ∧ x = (rdF (gI h 1) len).1 ∧ (x = -9 → ∃ n m T, (rdF (gI h 1) len).2 = (3, n, m, T) ∧ RC g 3 n m T ∧ WR (3, n, m, T))) := by
  refine SP.of [some (.ref 0), some (.ref 10), none] (by decide) rfl (Nat.le_of_ble_eq_true rfl) ?_
  refine wh_aload_n (pc := 0) d_Lm_readInto_0 rfl rfl ?_
  refine gf_Lm_30 (pc := 1) rfl d_Lm_readInto_1 ?_
  refine wh_aload_n (pc := 4) d_Lm_readInto_4 rfl rfl ?_
  refine cv_Lm_233_d (pc := 5) rfl d_Lm_readInto_5 ⟨⟨by decide, by decide⟩, rfl, rfl⟩ (c_begin) (Nat.le_of_ble_eq_true rfl) ?_
  refine wh_iconst (pc := 8) (v := 0) d_Lm_readInto_8 (by decide) ?_
  refine wh_istore_n (pc := 9) (ls2 := [_, _, _]) d_Lm_readInto_9 rfl (by decide) rfl rfl ?_
  refine wh_loopR len (fun i => [some (.ref 0), some (.ref 10), some (.int (nI i))]) (fun i g => ∃ d n m T, FC h g ∧ RC g d n m T ∧ WR (d, n, m, T) ∧ rdF (gI h 1) len = rdR (gI h 1) (len - i) i (d, n, m, T)) ?_ ?_ 0 _ (Nat.zero_le _) ⟨0, 0, 0, fun _ _ => 0, ?_, ?_, WR_0, rfl⟩
  rotate_left
  rotate_left
  · exact (((((fc_sI (by unfold scC; omega)).tr (fc_sI (by unfold scC; omega))).tr (fc_sI (by unfold scC; omega))).tr (fc_sI (by unfold scC; omega))).tr (fc_sI (by unfold scC; omega))).tr (fc_sI (by unfold scC; omega))
  · refine ⟨gI_sS _ _ _ _, ?_, ?_, ?_, ?_, ?_, ?_, ?_, ?_, ?_⟩
    · rw [gI_sM (by decide), gI_sM (by decide), gI_sM (by decide), gI_sM (by decide), gI_sM (by decide), gI_sS]; rfl
    · rw [gI_sM (by decide), gI_sM (by decide), gI_sM (by decide), gI_sM (by decide), gI_sS]; rfl
    · rw [gI_sM (by decide), gI_sS]
    · exact fun k hk => absurd hk (Nat.not_lt_zero k)
    · exact fun k hk => absurd hk (Nat.not_lt_zero k)
    · exact fun z => absurd z (by decide)
    · exact fun z => absurd z (by decide)
    · exact fun z => by rcases z with z | z | z <;> exact absurd z (by decide)
    · exact fun z => absurd z (by decide)
  · intro g hI
    obtain ⟨d, n, m, T, hfc, hr, hw, he⟩ := hI
    have hln : gI g 0 1 = nI len := (hfc.2 0 1 (by unfold scC; omega)).trans hl
    rw [rd_end] at he
    by_cases hd : d = 3
    · subst hd
      have he1 : (rdF (gI h 1) len).1 = -9 := by rw [he]; rfl
      refine wh_iload_n (pc := 10) d_Lm_readInto_10 rfl rfl ?_
      refine wh_aload_n (pc := 11) d_Lm_readInto_11 rfl rfl ?_
      refine gf_Lm_13 (pc := 12) rfl d_Lm_readInto_12 ?_
      refine wh_icmp_ge (pc := 15) (tgt := 49) d_Lm_readInto_15 (by decide) (fun c_15 => ?_) (fun c_15 => absurd (by rw [hln]; exact nI_le (Nat.le_refl _) (by omega)) c_15)
      refine wh_aload_n (pc := 49) d_Lm_readInto_49 rfl rfl ?_
      refine gf_Lm_30 (pc := 50) rfl d_Lm_readInto_50 ?_
      refine cv_Lm_240_d (pc := 53) rfl d_Lm_readInto_53 ⟨⟨by decide, by decide⟩, rfl, rfl⟩ (c_mayEnd hr.1 (by decide)) (Nat.le_of_ble_eq_true rfl) ?_
      refine wh_if_eq (pc := 56) (tgt := 64) d_Lm_readInto_56 (by decide) (fun c_56 => absurd c_56 (by decide)) (fun c_56 => ?_)
      refine wh_bipush (pc := 59) (v := (-9)) d_Lm_readInto_59 (by decide) ?_
      refine wh_goto (pc := 61) (tgt := 68) d_Lm_readInto_61 (by decide) ?_
      refine wh_iret (pc := 68) d_Lm_readInto_68 rfl ?_
      exact ⟨_, rfl, hfc, he1.symm, fun _ => ⟨n, m, T, by rw [he], hr, hw⟩⟩
    · have he1 : (rdF (gI h 1) len).1 = nI len := by rw [he]; show (if d = 3 then (-9 : Int32) else nI len) = _; rw [if_neg hd]
      refine wh_iload_n (pc := 10) d_Lm_readInto_10 rfl rfl ?_
      refine wh_aload_n (pc := 11) d_Lm_readInto_11 rfl rfl ?_
      refine gf_Lm_13 (pc := 12) rfl d_Lm_readInto_12 ?_
      refine wh_icmp_ge (pc := 15) (tgt := 49) d_Lm_readInto_15 (by decide) (fun c_15 => ?_) (fun c_15 => absurd (by rw [hln]; exact nI_le (Nat.le_refl _) (by omega)) c_15)
      refine wh_aload_n (pc := 49) d_Lm_readInto_49 rfl rfl ?_
      refine gf_Lm_30 (pc := 50) rfl d_Lm_readInto_50 ?_
      refine cv_Lm_240_d (pc := 53) rfl d_Lm_readInto_53 ⟨⟨by decide, by decide⟩, rfl, rfl⟩ (c_mayEnd hr.1 hw.1) (Nat.le_of_ble_eq_true rfl) ?_
      refine wh_if_eq (pc := 56) (tgt := 64) d_Lm_readInto_56 (by decide) (fun c_56 => ?_) (fun c_56 => absurd (by rw [if_neg hd]) c_56)
      refine wh_aload_n (pc := 64) d_Lm_readInto_64 rfl rfl ?_
      refine gf_Lm_13 (pc := 65) rfl d_Lm_readInto_65 ?_
      rw [hln]
      refine wh_iret (pc := 68) d_Lm_readInto_68 rfl ?_
      exact ⟨_, rfl, hfc, he1.symm, fun z => absurd z (nI9 (by omega))⟩
  · intro i g hi hI ih
    obtain ⟨d, n, m, T, hfc, hr, hw, he⟩ := hI
    have hln : gI g 0 1 = nI len := (hfc.2 0 1 (by unfold scC; omega)).trans hl
    have ht : gI g 1 (nI i).toNatClampNeg = gI h 1 i := by rw [cl_nI (by omega)]; exact hfc.2 1 i (by unfold scC; omega)
    refine wh_iload_n (pc := 10) d_Lm_readInto_10 rfl rfl ?_
    refine wh_aload_n (pc := 11) d_Lm_readInto_11 rfl rfl ?_
    refine gf_Lm_13 (pc := 12) rfl d_Lm_readInto_12 ?_
    refine wh_icmp_ge (pc := 15) (tgt := 49) d_Lm_readInto_15 (by decide) (fun c_15 => absurd c_15 (by rw [hln]; exact nI_ge hi (by omega))) (fun c_15 => ?_)
    refine wh_iload_n (pc := 18) d_Lm_readInto_18 rfl rfl ?_
    refine wh_bipush (pc := 19) (v := 56) d_Lm_readInto_19 (by decide) ?_
    refine wh_icmp_ge (pc := 21) (tgt := 49) d_Lm_readInto_21 (by decide) (fun c_21 => absurd c_21 (nI_ge (show i < 56 by omega) (by decide))) (fun c_21 => ?_)
    refine wh_aload_n (pc := 24) d_Lm_readInto_24 rfl rfl ?_
    refine gf_Lm_30 (pc := 25) rfl d_Lm_readInto_25 ?_
    refine wh_aload_n (pc := 28) d_Lm_readInto_28 rfl rfl ?_
    refine gf_Lm_9 (pc := 29) rfl d_Lm_readInto_29 ?_
    refine wh_iload_n (pc := 32) d_Lm_readInto_32 rfl rfl ?_
    refine wh_iald (pc := 33) d_Lm_readInto_33 rfl (in_nI (by omega) (by omega)) ?_
    rw [ht]
    refine wh_aload_n (pc := 34) d_Lm_readInto_34 rfl rfl ?_
    refine cv_Lm_236_i (pc := 35) rfl d_Lm_readInto_35 ⟨⟨by decide, by decide⟩, rfl, rfl⟩ (c_takes hr hw) (Nat.le_of_ble_eq_true rfl) (fun h_35 x_35 e_35 => ?_)
    refine wh_if_ne (pc := 38) (tgt := 43) d_Lm_readInto_38 (by decide) (fun c_38 => ?_) (fun c_38 => ?_)
    · refine wh_iinc (pc := 43) (ls2 := [_, _, _]) d_Lm_readInto_43 rfl (nI_inc _) (by decide) rfl rfl ?_
      refine wh_goto (pc := 46) (tgt := 10) d_Lm_readInto_46 (by decide) ?_
      rcases e_35.2 with ⟨s, z1, z2, z3⟩ | ⟨z1, z2⟩
      · exact ih _ ⟨s.1, s.2.1, s.2.2.1, s.2.2.2, hfc.tr e_35.1, z3, WR_s hw z1, he.trans (rd_some hi z1)⟩
      · exact absurd z2 c_38
    · refine wh_iload_n (pc := 41) d_Lm_readInto_41 rfl rfl ?_
      refine wh_iret (pc := 42) d_Lm_readInto_42 rfl ?_
      rcases e_35.2 with ⟨s, z1, z2, z3⟩ | ⟨z1, z2⟩
      · exact absurd (z2.symm.trans c_38) (by decide)
      · refine ⟨_, rfl, hfc.tr e_35.1, by rw [he, rd_none hi z1], fun z => absurd z (nI9 (by omega))⟩
theorem c_fault {l : Launch} {D : va_G} {base : Nat} {h : Hp} {len : Nat} (hl : gI h 0 1 = nI len) (h56 : len ≤ 56) : SI l D base M_Lm_fault [.ref 0] h (fun g x => FC h g ∧ x = (rdF (gI h 1) len).1) := by
  refine SP.of [some (.ref 0)] (by decide) rfl (Nat.le_of_ble_eq_true rfl) ?_
  refine wh_aload_n (pc := 0) d_Lm_fault_0 rfl rfl ?_
  refine wh_aload_n (pc := 1) d_Lm_fault_1 rfl rfl ?_
  refine gf_Lm_24 (pc := 2) rfl d_Lm_fault_2 ?_
  refine cv_Lm_68_i (pc := 5) rfl d_Lm_fault_5 ⟨⟨by decide, by decide⟩, rfl, rfl⟩ (c_readInto hl h56) (Nat.le_of_ble_eq_true rfl) (fun h_5 x_5 e_5 => ?_)
  refine wh_iret (pc := 8) d_Lm_fault_8 rfl ?_
  exact ⟨_, rfl, e_5.1, e_5.2.1⟩

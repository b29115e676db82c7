theorem s_canTurn {l : Launch} {D : va_G} {base : Nat} {b : Nat} (hb : IsLane b) {h : Hp} {S : St} (hS : laneS h b = S) (hF : WFS S) {w y : Int32} : SD l D base M_Ln_canTurn [.ref b, .int w, .int y] h (some (.int (canF S w y))) h := by
  refine SP.of [some (.ref b), some (.int w), some (.int y)] (by decide) rfl (Nat.le_of_ble_eq_true rfl) ?_
  subst hS
  have hw5 := hF.1.1
  have hm6 := hF.2.1.1
  rcases bI_two (w := w) (n := nW (laneS h b)) (by omega) with hz | ⟨k, hk, rfl⟩
  · refine wh_aload_n (pc := 0) d_Ln_canTurn_0 rfl rfl ?_
    refine wh_iload_n (pc := 1) d_Ln_canTurn_1 rfl rfl ?_
    refine cv_Ln_49_d (pc := 2) hb rfl d_Ln_canTurn_2 ⟨⟨by decide, by decide⟩, rfl, rfl⟩ (s_hasWindow hb (wf_w hF) hw5) (Nat.le_of_ble_eq_true rfl) ?_
    refine wh_if_eq (pc := 5) (tgt := 36) d_Ln_canTurn_5 (by decide) (fun c_5 => ?_) (fun c_5 => absurd hz c_5)
    refine wh_iconst (pc := 36) (v := 0) d_Ln_canTurn_36 (by decide) ?_
    refine wh_zret (pc := 37) d_Ln_canTurn_37 rfl rfl ?_
    refine ⟨rfl, ?_⟩
    unfold canF
    by_cases q : w < 0 ∨ nI (nW (laneS h b)) ≤ w
    · rw [if_pos q]
    · exact absurd hz (by rw [bI_yes (fun z => q (Or.inl z)) (fun z => q (Or.inr z))]; decide)
  · have hq : ¬ (nI k < 0 ∨ nI (nW (laneS h b)) ≤ nI k) := fun z => z.elim (nI_pos (by omega)) (nI_ge hk (by omega))
    refine wh_aload_n (pc := 0) d_Ln_canTurn_0 rfl rfl ?_
    refine wh_iload_n (pc := 1) d_Ln_canTurn_1 rfl rfl ?_
    refine cv_Ln_49_d (pc := 2) hb rfl d_Ln_canTurn_2 ⟨⟨by decide, by decide⟩, rfl, rfl⟩ (s_hasWindow hb (wf_w hF) hw5) (Nat.le_of_ble_eq_true rfl) ?_
    refine wh_if_eq (pc := 5) (tgt := 36) d_Ln_canTurn_5 (by decide) (fun c_5 => absurd c_5 (by rw [bI_in hk (by omega)]; decide)) (fun c_5 => ?_)
    refine wh_aload_n (pc := 8) d_Ln_canTurn_8 rfl rfl ?_
    refine gf_Ln_15 (pc := 9) hb rfl d_Ln_canTurn_9 ?_
    refine wh_iload_n (pc := 12) d_Ln_canTurn_12 rfl rfl ?_
    refine wh_iald (pc := 13) d_Ln_canTurn_13 (la_burns hb) (in_nI (by omega) (by omega)) ?_
    refine wh_iload_n (pc := 14) d_Ln_canTurn_14 rfl rfl ?_
    refine wh_iadd (pc := 15) d_Ln_canTurn_15 ?_
    refine wh_if_lt (pc := 16) (tgt := 36) d_Ln_canTurn_16 (by decide) (fun c_16 => ?_) (fun c_16 => ?_)
    · refine wh_iconst (pc := 36) (v := 0) d_Ln_canTurn_36 (by decide) ?_
      refine wh_zret (pc := 37) d_Ln_canTurn_37 rfl rfl ?_
      refine ⟨rfl, ?_⟩
      unfold canF
      simp only [cl_nI (show k < 2 ^ 31 by omega), la1 hk] at *
      rw [if_neg hq]
      first | (rw [if_pos c_16]; done) | (rw [if_neg c_16, if_pos c_29]; done) | (rw [if_neg c_16, if_neg c_29]; done)
    · refine wh_aload_n (pc := 19) d_Ln_canTurn_19 rfl rfl ?_
      refine gf_Ln_15 (pc := 20) hb rfl d_Ln_canTurn_20 ?_
      refine wh_iload_n (pc := 23) d_Ln_canTurn_23 rfl rfl ?_
      refine wh_iald (pc := 24) d_Ln_canTurn_24 (la_burns hb) (in_nI (by omega) (by omega)) ?_
      refine wh_iload_n (pc := 25) d_Ln_canTurn_25 rfl rfl ?_
      refine wh_iadd (pc := 26) d_Ln_canTurn_26 ?_
      refine wh_bipush (pc := 27) (v := 9) d_Ln_canTurn_27 (by decide) ?_
      refine wh_icmp_gt (pc := 29) (tgt := 36) d_Ln_canTurn_29 (by decide) (fun c_29 => ?_) (fun c_29 => ?_)
      · refine wh_iconst (pc := 36) (v := 0) d_Ln_canTurn_36 (by decide) ?_
        refine wh_zret (pc := 37) d_Ln_canTurn_37 rfl rfl ?_
        refine ⟨rfl, ?_⟩
        unfold canF
        simp only [cl_nI (show k < 2 ^ 31 by omega), la1 hk] at *
        rw [if_neg hq]
        first | (rw [if_pos c_16]; done) | (rw [if_neg c_16, if_pos c_29]; done) | (rw [if_neg c_16, if_neg c_29]; done)
      · refine wh_iconst (pc := 32) (v := 1) d_Ln_canTurn_32 (by decide) ?_
        refine wh_goto (pc := 33) (tgt := 37) d_Ln_canTurn_33 (by decide) ?_
        refine wh_zret (pc := 37) d_Ln_canTurn_37 rfl rfl ?_
        refine ⟨rfl, ?_⟩
        unfold canF
        simp only [cl_nI (show k < 2 ^ 31 by omega), la1 hk] at *
        rw [if_neg hq]
        first | (rw [if_pos c_16]; done) | (rw [if_neg c_16, if_pos c_29]; done) | (rw [if_neg c_16, if_neg c_29]; done)
theorem s_turnY {l : Launch} {D : va_G} {base : Nat} {b : Nat} (hb : IsLane b) {h : Hp} {S : St} (hS : laneS h b = S) (hF : WFS S) {k : Nat} (hk : k < nW S) {y : Int32} (hc : canF S (nI k) y = 1) : SD l D base M_Ln_turn [.ref b, .int (nI k), .int y] h (some (.int 1)) (sI h (b + 2) k (S 1 k + y)) := by
  refine SP.of [some (.ref b), some (.int (nI k)), some (.int y)] (by decide) rfl (Nat.le_of_ble_eq_true rfl) ?_
  subst hS
  have hw5 := hF.1.1
  have hm6 := hF.2.1.1
  refine wh_aload_n (pc := 0) d_Ln_turn_0 rfl rfl ?_
  refine wh_iload_n (pc := 1) d_Ln_turn_1 rfl rfl ?_
  refine wh_iload_n (pc := 2) d_Ln_turn_2 rfl rfl ?_
  refine cv_Ln_103_d (pc := 3) hb rfl d_Ln_turn_3 ⟨⟨by decide, by decide⟩, rfl, rfl⟩ (s_canTurn hb rfl hF) (Nat.le_of_ble_eq_true rfl) ?_
  refine wh_if_ne (pc := 6) (tgt := 11) d_Ln_turn_6 (by decide) (fun c_6 => ?_) (fun c_6 => absurd c_6 (by rw [hc]; decide))
  refine wh_aload_n (pc := 11) d_Ln_turn_11 rfl rfl ?_
  refine gf_Ln_15 (pc := 12) hb rfl d_Ln_turn_12 ?_
  refine wh_iload_n (pc := 15) d_Ln_turn_15 rfl rfl ?_
  refine wh_dup2 (pc := 16) d_Ln_turn_16 rfl rfl ?_
  refine wh_iald (pc := 17) d_Ln_turn_17 (la_burns hb) (in_nI (by omega) (by omega)) ?_
  refine wh_iload_n (pc := 18) d_Ln_turn_18 rfl rfl ?_
  refine wh_iadd (pc := 19) d_Ln_turn_19 ?_
  refine wh_iast (pc := 20) d_Ln_turn_20 (la_burns hb) (in_nI (by omega) (by omega)) ?_
  refine wh_iconst (pc := 21) (v := 1) d_Ln_turn_21 (by decide) ?_
  refine wh_zret (pc := 22) d_Ln_turn_22 rfl rfl ?_
  refine ⟨?_, rfl⟩
  rw [cl_nI (show k < 2 ^ 31 by omega), la1 hk]
theorem s_turnN {l : Launch} {D : va_G} {base : Nat} {b : Nat} (hb : IsLane b) {h : Hp} {S : St} (hS : laneS h b = S) (hF : WFS S) {w y : Int32} (hc : canF S w y = 0) : SD l D base M_Ln_turn [.ref b, .int w, .int y] h (some (.int 0)) h := by
  refine SP.of [some (.ref b), some (.int w), some (.int y)] (by decide) rfl (Nat.le_of_ble_eq_true rfl) ?_
  subst hS
  have hw5 := hF.1.1
  have hm6 := hF.2.1.1
  refine wh_aload_n (pc := 0) d_Ln_turn_0 rfl rfl ?_
  refine wh_iload_n (pc := 1) d_Ln_turn_1 rfl rfl ?_
  refine wh_iload_n (pc := 2) d_Ln_turn_2 rfl rfl ?_
  refine cv_Ln_103_d (pc := 3) hb rfl d_Ln_turn_3 ⟨⟨by decide, by decide⟩, rfl, rfl⟩ (s_canTurn hb rfl hF) (Nat.le_of_ble_eq_true rfl) ?_
  refine wh_if_ne (pc := 6) (tgt := 11) d_Ln_turn_6 (by decide) (fun c_6 => absurd hc c_6) (fun c_6 => ?_)
  refine wh_iconst (pc := 9) (v := 0) d_Ln_turn_9 (by decide) ?_
  refine wh_zret (pc := 10) d_Ln_turn_10 rfl rfl ?_
  exact ⟨rfl, rfl⟩
theorem s_fly {l : Launch} {D : va_G} {base : Nat} {b : Nat} (hb : IsLane b) {h : Hp} {S : St} (hS : laneS h b = S) (hF : WFS S) {j : Nat} (hj : j < nM S) : SD l D base M_Ln_flyNearer [.ref b, .int (nI j), .int (drawsF S j)] h none (sI h (b + 5) j (S 3 j + stepF S j)) := by
  refine SP.of [some (.ref b), some (.int (nI j)), some (.int (drawsF S j)), none] (by decide) rfl (Nat.le_of_ble_eq_true rfl) ?_
  subst hS
  have hw5 := hF.1.1
  have hm6 := hF.2.1.1
  by_cases h0 : drawsF (laneS h b) j = 0
  · rw [h0]
    refine wh_iload_n (pc := 0) d_Ln_flyNearer_0 rfl rfl ?_
    refine cs_Ln_110_d (pc := 1) rfl d_Ln_flyNearer_1 ⟨⟨by decide, by decide⟩, rfl, rfl⟩ (s_ntz) (Nat.le_of_ble_eq_true rfl) ?_
    refine wh_istore_n (pc := 4) (ls2 := [_, _, _, _]) d_Ln_flyNearer_4 rfl (by decide) rfl rfl ?_
    refine wh_aload_n (pc := 5) d_Ln_flyNearer_5 rfl rfl ?_
    refine wh_iload_n (pc := 6) d_Ln_flyNearer_6 rfl rfl ?_
    refine cv_Ln_49_d (pc := 7) hb rfl d_Ln_flyNearer_7 ⟨⟨by decide, by decide⟩, rfl, rfl⟩ (s_hasWindow hb (wf_w hF) hw5) (Nat.le_of_ble_eq_true rfl) ?_
    refine wh_if_eq (pc := 10) (tgt := 21) d_Ln_flyNearer_10 (by decide) (fun c_10 => ?_) (fun c_10 => absurd (by rw [low_out]; exact bI_no (Or.inr (by rw [i_le, nI_toInt (by omega)]; show _ ≤ (32 : Int); omega))) c_10)
    refine wh_vret (pc := 21) d_Ln_flyNearer_21 rfl ?_
    refine ⟨?_, rfl⟩
    refine (sI_id ?_).symm
    unfold stepF
    rw [if_pos h0, Int32.add_zero, la3 hj]
  · obtain ⟨e, he, ee⟩ := draws_nat hw5 j
    obtain ⟨l1, l2⟩ := low_in _ (by omega) e he (by rw [← ee]; exact h0)
    rw [← ee] at l1 l2
    refine wh_iload_n (pc := 0) d_Ln_flyNearer_0 rfl rfl ?_
    refine cs_Ln_110_d (pc := 1) rfl d_Ln_flyNearer_1 ⟨⟨by decide, by decide⟩, rfl, rfl⟩ (s_ntz) (Nat.le_of_ble_eq_true rfl) ?_
    rw [l2]
    refine wh_istore_n (pc := 4) (ls2 := [_, _, _, _]) d_Ln_flyNearer_4 rfl (by decide) rfl rfl ?_
    refine wh_aload_n (pc := 5) d_Ln_flyNearer_5 rfl rfl ?_
    refine wh_iload_n (pc := 6) d_Ln_flyNearer_6 rfl rfl ?_
    refine cv_Ln_49_d (pc := 7) hb rfl d_Ln_flyNearer_7 ⟨⟨by decide, by decide⟩, rfl, rfl⟩ (s_hasWindow hb (wf_w hF) hw5) (Nat.le_of_ble_eq_true rfl) ?_
    refine wh_if_eq (pc := 10) (tgt := 21) d_Ln_flyNearer_10 (by decide) (fun c_10 => absurd c_10 (by rw [bI_in l1 (by omega)]; decide)) (fun c_10 => ?_)
    refine wh_aload_n (pc := 13) d_Ln_flyNearer_13 rfl rfl ?_
    refine wh_iload_n (pc := 14) d_Ln_flyNearer_14 rfl rfl ?_
    refine cv_Ln_53_d (pc := 15) hb rfl d_Ln_flyNearer_15 ⟨⟨by decide, by decide⟩, rfl, rfl⟩ (s_hasMoth hb (wf_m hF) hm6) (Nat.le_of_ble_eq_true rfl) ?_
    refine wh_if_ne (pc := 18) (tgt := 22) d_Ln_flyNearer_18 (by decide) (fun c_18 => ?_) (fun c_18 => absurd c_18 (by rw [bI_in hj (by omega)]; decide))
    refine wh_aload_n (pc := 22) d_Ln_flyNearer_22 rfl rfl ?_
    refine gf_Ln_24 (pc := 23) hb rfl d_Ln_flyNearer_23 ?_
    refine wh_iload_n (pc := 26) d_Ln_flyNearer_26 rfl rfl ?_
    refine wh_dup2 (pc := 27) d_Ln_flyNearer_27 rfl rfl ?_
    refine wh_iald (pc := 28) d_Ln_flyNearer_28 (la_seats hb) (in_nI (by omega) (by omega)) ?_
    refine wh_aload_n (pc := 29) d_Ln_flyNearer_29 rfl rfl ?_
    refine gf_Ln_9 (pc := 30) hb rfl d_Ln_flyNearer_30 ?_
    refine wh_iload_n (pc := 33) d_Ln_flyNearer_33 rfl rfl ?_
    refine wh_iald (pc := 34) d_Ln_flyNearer_34 (la_spots hb) (in_nI (by omega) (by omega)) ?_
    refine wh_aload_n (pc := 35) d_Ln_flyNearer_35 rfl rfl ?_
    refine gf_Ln_24 (pc := 36) hb rfl d_Ln_flyNearer_36 ?_
    refine wh_iload_n (pc := 39) d_Ln_flyNearer_39 rfl rfl ?_
    refine wh_iald (pc := 40) d_Ln_flyNearer_40 (la_seats hb) (in_nI (by omega) (by omega)) ?_
    refine cs_Ln_113_d (pc := 41) rfl d_Ln_flyNearer_41 ⟨⟨by decide, by decide⟩, rfl, rfl⟩ (s_cmp) (Nat.le_of_ble_eq_true rfl) ?_
    refine wh_iadd (pc := 44) d_Ln_flyNearer_44 ?_
    refine wh_iast (pc := 45) d_Ln_flyNearer_45 (la_seats hb) (in_nI (by omega) (by omega)) ?_
    refine wh_vret (pc := 46) d_Ln_flyNearer_46 rfl ?_
    refine ⟨?_, rfl⟩
    simp only [cl_nI (show j < 2 ^ 31 by omega), cl_nI (show lowB (drawsF (laneS h b) j) < 2 ^ 31 by omega), la3 hj, la0 l1]
    unfold stepF
    rw [if_neg h0]
theorem lane_paid {h : Hp} {b : Nat} {f : Nat → Int32} {n : Nat} : laneS (fillA h (b + 4) f n) b = laneS h b := lane_ext (fun j _ _ => gI_fillN (by omega)) (fun c j _ _ hc => gI_fillN hc)
theorem lane_nt {h : Hp} {b i : Nat} (hi : i ≤ nM (laneS h b)) : laneS (fillA (fillA (fillA h (b + 7) (owedF (laneS h b)) (nW (laneS h b))) (b + 4) (fun k => gI h (b + 4) k + owedF (laneS h b) k) (nW (laneS h b))) (b + 5) (fun j => laneS h b 3 j + stepF (laneS h b) j) i) b = moved (laneS h b) i := by
  have e : laneS (fillA (fillA h (b + 7) (owedF (laneS h b)) (nW (laneS h b))) (b + 4) (fun k => gI h (b + 4) k + owedF (laneS h b) k) (nW (laneS h b))) b = laneS h b := by rw [lane_paid, lane_dues]
  have := lane_seats (h := fillA (fillA h (b + 7) (owedF (laneS h b)) (nW (laneS h b))) (b + 4) (fun k => gI h (b + 4) k + owedF (laneS h b) k) (nW (laneS h b))) (b := b) (i := i) (by rw [e]; exact hi)
  rw [e] at this
  exact this
theorem s_night {l : Launch} {D : va_G} {base : Nat} {b : Nat} (hb : IsLane b) {h : Hp} {S : St} (hS : laneS h b = S) (hF : WFS S) : SD l D base M_Ln_passNight [.ref b] h (some (.int (allF S))) (ntH h b) := by
  refine SP.of [some (.ref b), none, none] (by decide) rfl (Nat.le_of_ble_eq_true rfl) ?_
  subst hS
  have hw5 := hF.1.1
  have hm6 := hF.2.1.1
  have hgm : ∀ i, gI (fillA (fillA (fillA h (b + 7) (owedF (laneS h b)) (nW (laneS h b))) (b + 4) (fun k => gI h (b + 4) k + owedF (laneS h b) k) (nW (laneS h b))) (b + 5) (fun j => laneS h b 3 j + stepF (laneS h b) j) i) b 7 = nI (nM (laneS h b)) := fun i => by rw [gI_fillN (by omega), gI_fillN (by omega), gI_fillN (by omega)]; exact wf_m hF
  refine wh_aload_n (pc := 0) d_Ln_passNight_0 rfl rfl ?_
  refine cv_Ln_93_d (pc := 1) hb rfl d_Ln_passNight_1 ⟨⟨by decide, by decide⟩, rfl, rfl⟩ (s_reckon hb rfl hF) (Nat.le_of_ble_eq_true rfl) ?_
  refine wh_iconst (pc := 4) (v := 0) d_Ln_passNight_4 (by decide) ?_
  refine wh_istore_n (pc := 5) (ls2 := [_, _, _]) d_Ln_passNight_5 rfl (by decide) rfl rfl ?_
  refine wh_iconst (pc := 6) (v := 0) d_Ln_passNight_6 (by decide) ?_
  refine wh_istore_n (pc := 7) (ls2 := [_, _, _]) d_Ln_passNight_7 rfl (by decide) rfl rfl ?_
  refine wh_eq (wh_loop (nW (laneS h b)) (fun i => [some (.ref b), some (.int (smN (owedF (laneS h b)) i)), some (.int (nI i))]) (fun i => fillA (fillA h (b + 7) (owedF (laneS h b)) (nW (laneS h b))) (b + 4) (fun k => gI h (b + 4) k + owedF (laneS h b) k) i) (fun i => True) ?_ ?_ 0 (Nat.zero_le _) trivial) rfl rfl (fill_0 _ _ _).symm
  · intro _
    refine wh_iload_n (pc := 8) d_Ln_passNight_8 rfl rfl ?_
    refine wh_aload_n (pc := 9) d_Ln_passNight_9 rfl rfl ?_
    refine gf_Ln_30 (pc := 10) hb rfl d_Ln_passNight_10 ?_
    refine wh_icmp_ge (pc := 13) (tgt := 46) d_Ln_passNight_13 (by decide) (fun c_13 => ?_) (fun c_13 => absurd (by rw [gI_fillN (by omega), gI_fillN (by omega), wf_w hF]; exact nI_le (Nat.le_refl _) (by omega)) c_13)
    refine wh_iconst (pc := 46) (v := 0) d_Ln_passNight_46 (by decide) ?_
    refine wh_istore_n (pc := 47) (ls2 := [_, _, _]) d_Ln_passNight_47 rfl (by decide) rfl rfl ?_
    refine wh_eq (wh_loop (nM (laneS h b)) (fun i => [some (.ref b), some (.int (allF (laneS h b))), some (.int (nI i))]) (fun i => fillA (fillA (fillA h (b + 7) (owedF (laneS h b)) (nW (laneS h b))) (b + 4) (fun k => gI h (b + 4) k + owedF (laneS h b) k) (nW (laneS h b))) (b + 5) (fun j => laneS h b 3 j + stepF (laneS h b) j) i) (fun i => True) ?_ ?_ 0 (Nat.zero_le _) trivial) rfl rfl (fill_0 _ _ _).symm
    · intro _
      refine wh_iload_n (pc := 48) d_Ln_passNight_48 rfl rfl ?_
      refine wh_aload_n (pc := 49) d_Ln_passNight_49 rfl rfl ?_
      refine gf_Ln_34 (pc := 50) hb rfl d_Ln_passNight_50 ?_
      refine wh_icmp_ge (pc := 53) (tgt := 72) d_Ln_passNight_53 (by decide) (fun c_53 => ?_) (fun c_53 => absurd (by rw [hgm]; exact nI_le (Nat.le_refl _) (by omega)) c_53)
      refine wh_aload_n (pc := 72) d_Ln_passNight_72 rfl rfl ?_
      refine wh_dup (pc := 73) d_Ln_passNight_73 rfl ?_
      refine gf_Ln_43 (pc := 74) hb rfl d_Ln_passNight_74 ?_
      refine wh_iconst (pc := 77) (v := 1) d_Ln_passNight_77 (by decide) ?_
      refine wh_iadd (pc := 78) d_Ln_passNight_78 ?_
      refine pf_Ln_43 (pc := 79) hb rfl d_Ln_passNight_79 ?_
      refine wh_iload_n (pc := 82) d_Ln_passNight_82 rfl rfl ?_
      refine wh_iret (pc := 83) d_Ln_passNight_83 rfl ?_
      refine ⟨?_, rfl⟩
      rw [gI_fillN (by omega), gI_fillN (by omega), gI_fillN (by omega)]
      rfl
    · intro i hi _ ih
      refine wh_iload_n (pc := 48) d_Ln_passNight_48 rfl rfl ?_
      refine wh_aload_n (pc := 49) d_Ln_passNight_49 rfl rfl ?_
      refine gf_Ln_34 (pc := 50) hb rfl d_Ln_passNight_50 ?_
      refine wh_icmp_ge (pc := 53) (tgt := 72) d_Ln_passNight_53 (by decide) (fun c_53 => absurd c_53 (by rw [hgm]; exact nI_ge hi (by omega))) (fun c_53 => ?_)
      refine wh_aload_n (pc := 56) d_Ln_passNight_56 rfl rfl ?_
      refine wh_iload_n (pc := 57) d_Ln_passNight_57 rfl rfl ?_
      refine wh_aload_n (pc := 58) d_Ln_passNight_58 rfl rfl ?_
      refine wh_iload_n (pc := 59) d_Ln_passNight_59 rfl rfl ?_
      refine cv_Ln_78_d (pc := 60) hb rfl d_Ln_passNight_60 ⟨⟨by decide, by decide⟩, rfl, rfl⟩ (s_draws hb (lane_nt (Nat.le_of_lt hi)) (wf_moved hF i (Nat.le_of_lt hi)) (by rw [moved_nM]; exact hi)) (Nat.le_of_ble_eq_true rfl) ?_
      refine cv_Ln_107_d (pc := 63) hb rfl d_Ln_passNight_63 ⟨⟨by decide, by decide⟩, rfl, rfl⟩ (s_fly hb (lane_nt (Nat.le_of_lt hi)) (wf_moved hF i (Nat.le_of_lt hi)) (by rw [moved_nM]; exact hi)) (Nat.le_of_ble_eq_true rfl) ?_
      refine wh_iinc (pc := 66) (ls2 := [_, _, _]) d_Ln_passNight_66 rfl (nI_inc _) (by decide) rfl rfl ?_
      refine wh_goto (pc := 69) (tgt := 48) d_Ln_passNight_69 (by decide) ?_
      refine wh_eq (ih trivial) rfl rfl ?_
      rw [step_moved _ i i (Nat.le_refl _), moved_hi _ i i (Nat.le_refl _)]
      exact fill_s _ _ _ _ rfl
  · intro i hi _ ih
    refine wh_iload_n (pc := 8) d_Ln_passNight_8 rfl rfl ?_
    refine wh_aload_n (pc := 9) d_Ln_passNight_9 rfl rfl ?_
    refine gf_Ln_30 (pc := 10) hb rfl d_Ln_passNight_10 ?_
    refine wh_icmp_ge (pc := 13) (tgt := 46) d_Ln_passNight_13 (by decide) (fun c_13 => absurd c_13 (by rw [gI_fillN (by omega), gI_fillN (by omega), wf_w hF]; exact nI_ge hi (by omega))) (fun c_13 => ?_)
    refine wh_aload_n (pc := 16) d_Ln_passNight_16 rfl rfl ?_
    refine gf_Ln_21 (pc := 17) hb rfl d_Ln_passNight_17 ?_
    refine wh_iload_n (pc := 20) d_Ln_passNight_20 rfl rfl ?_
    refine wh_dup2 (pc := 21) d_Ln_passNight_21 rfl rfl ?_
    refine wh_iald (pc := 22) d_Ln_passNight_22 (la_paid hb) (in_nI (by omega) (by omega)) ?_
    refine wh_aload_n (pc := 23) d_Ln_passNight_23 rfl rfl ?_
    refine gf_Ln_46 (pc := 24) hb rfl d_Ln_passNight_24 ?_
    refine wh_iload_n (pc := 27) d_Ln_passNight_27 rfl rfl ?_
    refine wh_iald (pc := 28) d_Ln_passNight_28 (la_dues hb) (in_nI (by omega) (by omega)) ?_
    refine wh_iadd (pc := 29) d_Ln_passNight_29 ?_
    refine wh_iast (pc := 30) d_Ln_passNight_30 (la_paid hb) (in_nI (by omega) (by omega)) ?_
    refine wh_iload_n (pc := 31) d_Ln_passNight_31 rfl rfl ?_
    refine wh_aload_n (pc := 32) d_Ln_passNight_32 rfl rfl ?_
    refine gf_Ln_46 (pc := 33) hb rfl d_Ln_passNight_33 ?_
    refine wh_iload_n (pc := 36) d_Ln_passNight_36 rfl rfl ?_
    refine wh_iald (pc := 37) d_Ln_passNight_37 (la_dues hb) (in_nI (by omega) (by omega)) ?_
    refine wh_iadd (pc := 38) d_Ln_passNight_38 ?_
    refine wh_istore_n (pc := 39) (ls2 := [_, _, _]) d_Ln_passNight_39 rfl (by decide) rfl rfl ?_
    refine wh_iinc (pc := 40) (ls2 := [_, _, _]) d_Ln_passNight_40 rfl (nI_inc _) (by decide) rfl rfl ?_
    refine wh_goto (pc := 43) (tgt := 8) d_Ln_passNight_43 (by decide) ?_
    simp only [cl_nI (show i < 2 ^ 31 by omega)]
    have e1 : gI (fillA (fillA h (b + 7) (owedF (laneS h b)) (nW (laneS h b))) (b + 4) (fun k => gI h (b + 4) k + owedF (laneS h b) k) i) (b + 7) i = owedF (laneS h b) i := by rw [gI_fillN (by omega), gI_fillY hi]
    have e2 : gI (fillA (fillA h (b + 7) (owedF (laneS h b)) (nW (laneS h b))) (b + 4) (fun k => gI h (b + 4) k + owedF (laneS h b) k) i) (b + 4) i = gI h (b + 4) i := by rw [gI_fillO (Nat.le_refl _), gI_fillN (by omega)]
    refine wh_eq (ih trivial) ?_ rfl ?_
    · rw [gI_sN (by omega), e1]; rfl
    · exact fill_s _ _ _ _ (by rw [e1, e2])
theorem s_cloud {l : Launch} {D : va_G} {base : Nat} {b : Nat} (hb : IsLane b) {h : Hp} {S : St} (hS : laneS h b = S) (hF : WFS S) {d : Int32} : SD l D base M_Ln_cloud [.ref b, .int d] h none (fillA h (b + 2) (fun k => if hasB d k then maxI 0 (gI h (b + 2) k - 2) else gI h (b + 2) k) (nW S)) := by
  refine SP.of [some (.ref b), some (.int d), none] (by decide) rfl (Nat.le_of_ble_eq_true rfl) ?_
  subst hS
  have hw5 := hF.1.1
  have hm6 := hF.2.1.1
  have hg : ∀ i, gI (fillA h (b + 2) (fun k => if hasB d k then maxI 0 (gI h (b + 2) k - 2) else gI h (b + 2) k) i) b 6 = nI (nW (laneS h b)) := fun i => by rw [gI_fillN (by omega)]; exact wf_w hF
  refine wh_iconst (pc := 0) (v := 0) d_Ln_cloud_0 (by decide) ?_
  refine wh_istore_n (pc := 1) (ls2 := [_, _, _]) d_Ln_cloud_1 rfl (by decide) rfl rfl ?_
  refine wh_eq (wh_loop (nW (laneS h b)) (fun i => [some (.ref b), some (.int d), some (.int (nI i))]) (fun i => fillA h (b + 2) (fun k => if hasB d k then maxI 0 (gI h (b + 2) k - 2) else gI h (b + 2) k) i) (fun i => True) ?_ ?_ 0 (Nat.zero_le _) trivial) ?_ rfl ?_
  · intro _
    refine wh_iload_n (pc := 2) d_Ln_cloud_2 rfl rfl ?_
    refine wh_aload_n (pc := 3) d_Ln_cloud_3 rfl rfl ?_
    refine gf_Ln_30 (pc := 4) hb rfl d_Ln_cloud_4 ?_
    refine wh_icmp_ge (pc := 7) (tgt := 43) d_Ln_cloud_7 (by decide) (fun c_7 => ?_) (fun c_7 => absurd (by rw [hg]; exact nI_le (Nat.le_refl _) (by omega)) c_7)
    refine wh_vret (pc := 43) d_Ln_cloud_43 rfl ?_
    exact ⟨rfl, rfl⟩
  · intro i hi _ ih
    refine wh_iload_n (pc := 2) d_Ln_cloud_2 rfl rfl ?_
    refine wh_aload_n (pc := 3) d_Ln_cloud_3 rfl rfl ?_
    refine gf_Ln_30 (pc := 4) hb rfl d_Ln_cloud_4 ?_
    refine wh_icmp_ge (pc := 7) (tgt := 43) d_Ln_cloud_7 (by decide) (fun c_7 => absurd c_7 (by rw [hg]; exact nI_ge hi (by omega))) (fun c_7 => ?_)
    refine wh_iload_n (pc := 10) d_Ln_cloud_10 rfl rfl ?_
    refine wh_iload_n (pc := 11) d_Ln_cloud_11 rfl rfl ?_
    refine wh_ishr (pc := 12) d_Ln_cloud_12 ?_
    refine wh_iconst (pc := 13) (v := 1) d_Ln_cloud_13 (by decide) ?_
    refine wh_iand (pc := 14) d_Ln_cloud_14 ?_
    refine wh_iconst (pc := 15) (v := 1) d_Ln_cloud_15 (by decide) ?_
    refine wh_icmp_ne (pc := 16) (tgt := 37) d_Ln_cloud_16 (by decide) (fun c_16 => ?_) (fun c_16 => ?_)
    · refine wh_iinc (pc := 37) (ls2 := [_, _, _]) d_Ln_cloud_37 rfl (nI_inc _) (by decide) rfl rfl ?_
      refine wh_goto (pc := 40) (tgt := 2) d_Ln_cloud_40 (by decide) ?_
      try simp only [cl_nI (show i < 2 ^ 31 by omega)]
      first
        | (have hc : hasB d i = true := decide_eq_true c_16; refine wh_eq (ih trivial) rfl rfl ?_; refine fill_s _ _ _ _ ?_; rw [if_pos hc, gI_fillO (Nat.le_refl _)]; done)
        | (have hc : hasB d i = false := decide_eq_false c_16; refine wh_eq (ih trivial) rfl rfl ?_; refine (fill_skip ?_).symm; rw [hc]; rfl)
    · refine wh_aload_n (pc := 19) d_Ln_cloud_19 rfl rfl ?_
      refine gf_Ln_15 (pc := 20) hb rfl d_Ln_cloud_20 ?_
      refine wh_iload_n (pc := 23) d_Ln_cloud_23 rfl rfl ?_
      refine wh_iconst (pc := 24) (v := 0) d_Ln_cloud_24 (by decide) ?_
      refine wh_aload_n (pc := 25) d_Ln_cloud_25 rfl rfl ?_
      refine gf_Ln_15 (pc := 26) hb rfl d_Ln_cloud_26 ?_
      refine wh_iload_n (pc := 29) d_Ln_cloud_29 rfl rfl ?_
      refine wh_iald (pc := 30) d_Ln_cloud_30 (la_burns hb) (in_nI (by omega) (by omega)) ?_
      refine wh_iconst (pc := 31) (v := 2) d_Ln_cloud_31 (by decide) ?_
      refine wh_isub (pc := 32) d_Ln_cloud_32 ?_
      refine wh_mmax (pc := 33) d_Ln_cloud_33 ml_Ln_72 ⟨by decide, Nat.le_of_ble_eq_true rfl⟩ ?_
      refine wh_iast (pc := 36) d_Ln_cloud_36 (la_burns hb) (in_nI (by omega) (by omega)) ?_
      refine wh_iinc (pc := 37) (ls2 := [_, _, _]) d_Ln_cloud_37 rfl (nI_inc _) (by decide) rfl rfl ?_
      refine wh_goto (pc := 40) (tgt := 2) d_Ln_cloud_40 (by decide) ?_
      try simp only [cl_nI (show i < 2 ^ 31 by omega)]
      first
        | (have hc : hasB d i = true := decide_eq_true c_16; refine wh_eq (ih trivial) rfl rfl ?_; refine fill_s _ _ _ _ ?_; rw [if_pos hc, gI_fillO (Nat.le_refl _)]; done)
        | (have hc : hasB d i = false := decide_eq_false c_16; refine wh_eq (ih trivial) rfl rfl ?_; refine (fill_skip ?_).symm; rw [hc]; rfl)
  · rfl
  · exact (fill_0 _ _ _).symm
theorem s_row {l : Launch} {D : va_G} {base : Nat} {b : Nat} (hb : IsLane b) {h : Hp} {S : St} (hS : laneS h b = S) (hF : WFS S) : SD l D base M_Ln_burnsAsRow [.ref b] h (some (.int (rowN S (nW S)))) h := by
  refine SP.of [some (.ref b), none, none] (by decide) rfl (Nat.le_of_ble_eq_true rfl) ?_
  subst hS
  have hw5 := hF.1.1
  have hm6 := hF.2.1.1
  refine wh_iconst (pc := 0) (v := 1) d_Ln_burnsAsRow_0 (by decide) ?_
  refine wh_istore_n (pc := 1) (ls2 := [_, _, _]) d_Ln_burnsAsRow_1 rfl (by decide) rfl rfl ?_
  refine wh_iconst (pc := 2) (v := 0) d_Ln_burnsAsRow_2 (by decide) ?_
  refine wh_istore_n (pc := 3) (ls2 := [_, _, _]) d_Ln_burnsAsRow_3 rfl (by decide) rfl rfl ?_
  refine wh_eq (wh_loop (nW (laneS h b)) (fun i => [some (.ref b), some (.int (rowN (laneS h b) i)), some (.int (nI i))]) (fun i => h) (fun i => True) ?_ ?_ 0 (Nat.zero_le _) trivial) ?_ rfl ?_
  · intro _
    refine wh_iload_n (pc := 4) d_Ln_burnsAsRow_4 rfl rfl ?_
    refine wh_aload_n (pc := 5) d_Ln_burnsAsRow_5 rfl rfl ?_
    refine gf_Ln_30 (pc := 6) hb rfl d_Ln_burnsAsRow_6 ?_
    refine wh_icmp_ge (pc := 9) (tgt := 30) d_Ln_burnsAsRow_9 (by decide) (fun c_9 => ?_) (fun c_9 => absurd (by rw [wf_w hF]; exact nI_le (Nat.le_refl _) (by omega)) c_9)
    refine wh_iload_n (pc := 30) d_Ln_burnsAsRow_30 rfl rfl ?_
    refine wh_iret (pc := 31) d_Ln_burnsAsRow_31 rfl ?_
    exact ⟨rfl, rfl⟩
  · intro i hi _ ih
    refine wh_iload_n (pc := 4) d_Ln_burnsAsRow_4 rfl rfl ?_
    refine wh_aload_n (pc := 5) d_Ln_burnsAsRow_5 rfl rfl ?_
    refine gf_Ln_30 (pc := 6) hb rfl d_Ln_burnsAsRow_6 ?_
    refine wh_icmp_ge (pc := 9) (tgt := 30) d_Ln_burnsAsRow_9 (by decide) (fun c_9 => absurd c_9 (by rw [wf_w hF]; exact nI_ge hi (by omega))) (fun c_9 => ?_)
    refine wh_iload_n (pc := 12) d_Ln_burnsAsRow_12 rfl rfl ?_
    refine wh_bipush (pc := 13) (v := 10) d_Ln_burnsAsRow_13 (by decide) ?_
    refine wh_imul (pc := 15) d_Ln_burnsAsRow_15 ?_
    refine wh_aload_n (pc := 16) d_Ln_burnsAsRow_16 rfl rfl ?_
    refine gf_Ln_15 (pc := 17) hb rfl d_Ln_burnsAsRow_17 ?_
    refine wh_iload_n (pc := 20) d_Ln_burnsAsRow_20 rfl rfl ?_
    refine wh_iald (pc := 21) d_Ln_burnsAsRow_21 (la_burns hb) (in_nI (by omega) (by omega)) ?_
    refine wh_iadd (pc := 22) d_Ln_burnsAsRow_22 ?_
    refine wh_istore_n (pc := 23) (ls2 := [_, _, _]) d_Ln_burnsAsRow_23 rfl (by decide) rfl rfl ?_
    refine wh_iinc (pc := 24) (ls2 := [_, _, _]) d_Ln_burnsAsRow_24 rfl (nI_inc _) (by decide) rfl rfl ?_
    refine wh_goto (pc := 27) (tgt := 4) d_Ln_burnsAsRow_27 (by decide) ?_
    refine wh_eq (ih trivial) ?_ rfl rfl
    rw [cl_nI (show i < 2 ^ 31 by omega), la1 hi]
    rfl
  · rfl
  · rfl
theorem down_1 {n t : Nat} (h : t < n) : nI n - 1 - nI t + Int32.ofInt (-1) = nI n - 1 - nI (t + 1) := by
  rw [show Int32.ofInt (-1) = -1 from rfl, ← nI_1, Int32.sub_eq_add_neg _ (nI t + 1), Int32.neg_add, Int32.sub_eq_add_neg _ (nI t), Int32.sub_eq_add_neg (-nI t), Int32.add_assoc]
theorem down_n {n t : Nat} (h : t < n) (hn : n < 2 ^ 30) : nI n - 1 - nI t = nI (n - 1 - t) := by
  rw [show (1 : Int32) = nI 1 from rfl, pk_sub (by omega), pk_sub (by omega)]
theorem down_z (n : Nat) : nI n - 1 - nI n < 0 := by
  have e : nI n - 1 - nI n = -1 := by
    rw [Int32.sub_eq_add_neg (nI n), Int32.add_comm (nI n), Int32.add_sub_cancel]
  rw [e]; decide
theorem s_threes {l : Launch} {D : va_G} {base : Nat} {b : Nat} (hb : IsLane b) {h : Hp} {S : St} (hS : laneS h b = S) (hF : WFS S) {q : Nat} (hq : q < 2 ^ 20) : SD l D base M_Ln_burnByThrees [.ref b, .int (nI q)] h none (th3 h b (nW S) q (nW S)) := by
  refine SP.of [some (.ref b), some (.int (nI q)), none, none] (by decide) rfl (Nat.le_of_ble_eq_true rfl) ?_
  subst hS
  have hw5 := hF.1.1
  have hm6 := hF.2.1.1
  refine wh_iload_n (pc := 0) d_Ln_burnByThrees_0 rfl rfl ?_
  refine wh_istore_n (pc := 1) (ls2 := [_, _, _, _]) d_Ln_burnByThrees_1 rfl (by decide) rfl rfl ?_
  refine wh_aload_n (pc := 2) d_Ln_burnByThrees_2 rfl rfl ?_
  refine gf_Ln_30 (pc := 3) hb rfl d_Ln_burnByThrees_3 ?_
  refine wh_iconst (pc := 6) (v := 1) d_Ln_burnByThrees_6 (by decide) ?_
  refine wh_isub (pc := 7) d_Ln_burnByThrees_7 ?_
  refine wh_istore_n (pc := 8) (ls2 := [_, _, _, _]) d_Ln_burnByThrees_8 rfl (by decide) rfl rfl ?_
  refine wh_eq (wh_loop (nW (laneS h b)) (fun t => [some (.ref b), some (.int (nI q)), some (.int (nI (q / 3 ^ t))), some (.int (nI (nW (laneS h b)) - 1 - nI t))]) (fun t => th3 h b (nW (laneS h b)) q t) (fun _ => True) ?_ ?_ 0 (Nat.zero_le _) trivial) ?_ rfl ?_
  · intro _
    refine wh_iload_n (pc := 9) d_Ln_burnByThrees_9 rfl rfl ?_
    refine wh_if_lt (pc := 10) (tgt := 34) d_Ln_burnByThrees_10 (by decide) (fun c_10 => ?_) (fun c_10 => absurd (down_z _) c_10)
    refine wh_vret (pc := 34) d_Ln_burnByThrees_34 rfl ?_
    exact ⟨rfl, rfl⟩
  · intro t hi _ ih
    have hd : q / 3 ^ t < 2 ^ 31 := Nat.lt_of_le_of_lt (Nat.div_le_self _ _) (by omega)
    refine wh_iload_n (pc := 9) d_Ln_burnByThrees_9 rfl rfl ?_
    refine wh_if_lt (pc := 10) (tgt := 34) d_Ln_burnByThrees_10 (by decide) (fun c_10 => absurd c_10 (by rw [down_n hi (by omega)]; exact nI_pos (by omega))) (fun c_10 => ?_)
    refine wh_aload_n (pc := 13) d_Ln_burnByThrees_13 rfl rfl ?_
    refine gf_Ln_15 (pc := 14) hb rfl d_Ln_burnByThrees_14 ?_
    refine wh_iload_n (pc := 17) d_Ln_burnByThrees_17 rfl rfl ?_
    refine wh_iload_n (pc := 18) d_Ln_burnByThrees_18 rfl rfl ?_
    refine wh_iconst (pc := 19) (v := 3) d_Ln_burnByThrees_19 (by decide) ?_
    refine wh_irem (pc := 20) d_Ln_burnByThrees_20 (by decide) ?_
    refine wh_iconst (pc := 21) (v := 3) d_Ln_burnByThrees_21 (by decide) ?_
    refine wh_imul (pc := 22) d_Ln_burnByThrees_22 ?_
    refine wh_iast (pc := 23) d_Ln_burnByThrees_23 (la_burns hb) (by rw [down_n hi (by omega)]; exact in_nI (by omega) (by omega)) ?_
    refine wh_iload_n (pc := 24) d_Ln_burnByThrees_24 rfl rfl ?_
    refine wh_iconst (pc := 25) (v := 3) d_Ln_burnByThrees_25 (by decide) ?_
    refine wh_idiv (pc := 26) d_Ln_burnByThrees_26 (by decide) ?_
    refine wh_istore_n (pc := 27) (ls2 := [_, _, _, _]) d_Ln_burnByThrees_27 rfl (by decide) rfl rfl ?_
    refine wh_iinc (pc := 28) (ls2 := [_, _, _, _]) d_Ln_burnByThrees_28 rfl rfl (by decide) rfl rfl ?_
    refine wh_goto (pc := 31) (tgt := 9) d_Ln_burnByThrees_31 (by decide) ?_
    refine wh_eq (ih trivial) ?_ rfl ?_
    · rw [down_1 hi, show (3 : Int32) = nI 3 from rfl, pk_div hd (by decide) (by decide), Nat.div_div_eq_div_mul, ← Nat.pow_succ]
    · rw [down_n hi (by omega), cl_nI (by omega), show (3 : Int32) = nI 3 from rfl, pk_rem hd (by decide) (by decide), pk_mul]
      exact th_s h b _ q t _ (by omega)
  · rw [Nat.pow_zero, Nat.div_one, nI_0, Int32.sub_zero]; show [some (Value.ref b), some (Value.int (nI q)), some (Value.int (nI q)), some (Value.int (gI h b 6 - 1))] = _; rw [wf_w hF]
  · exact (th_0 _ _ _ _).symm

theorem s_tug {l : Launch} {D : va_G} {base : Nat} {b : Nat} (hb : IsLane b) {h : Hp} {S : St} (hS : laneS h b = S) (hF : WFS S) {k j : Nat} (hk : k < nW S) (hj : j < nM S) : SD l D base M_Ln_tug [.ref b, .int (nI k), .int (nI j)] h (some (.int (pullF S k j))) h := by
  refine SP.of [some (.ref b), some (.int (nI k)), some (.int (nI j)), none] (by decide) rfl (Nat.le_of_ble_eq_true rfl) ?_
  subst hS
  have hw5 := hF.1.1
  have hm6 := hF.2.1.1
  refine wh_aload_n (pc := 0) d_Ln_tug_0 rfl rfl ?_
  refine wh_iload_n (pc := 1) d_Ln_tug_1 rfl rfl ?_
  refine cv_Ln_49_d (pc := 2) hb rfl d_Ln_tug_2 ⟨⟨by decide, by decide⟩, rfl, rfl⟩ (s_hasWindow hb (wf_w hF) hw5) (Nat.le_of_ble_eq_true rfl) ?_
  refine wh_if_eq (pc := 5) (tgt := 26) d_Ln_tug_5 (by decide) (fun c_5 => absurd c_5 (by rw [bI_in hk (by omega)]; decide)) (fun c_5 => ?_)
  refine wh_aload_n (pc := 8) d_Ln_tug_8 rfl rfl ?_
  refine wh_iload_n (pc := 9) d_Ln_tug_9 rfl rfl ?_
  refine cv_Ln_53_d (pc := 10) hb rfl d_Ln_tug_10 ⟨⟨by decide, by decide⟩, rfl, rfl⟩ (s_hasMoth hb (wf_m hF) hm6) (Nat.le_of_ble_eq_true rfl) ?_
  refine wh_if_eq (pc := 13) (tgt := 26) d_Ln_tug_13 (by decide) (fun c_13 => absurd c_13 (by rw [bI_in hj (by omega)]; decide)) (fun c_13 => ?_)
  refine wh_aload_n (pc := 16) d_Ln_tug_16 rfl rfl ?_
  refine gf_Ln_15 (pc := 17) hb rfl d_Ln_tug_17 ?_
  refine wh_iload_n (pc := 20) d_Ln_tug_20 rfl rfl ?_
  refine wh_iald (pc := 21) d_Ln_tug_21 (la_burns hb) (in_nI (by omega) (by omega)) ?_
  refine wh_iconst (pc := 22) (v := 1) d_Ln_tug_22 (by decide) ?_
  refine wh_icmp_ge (pc := 23) (tgt := 28) d_Ln_tug_23 (by decide) (fun c_23 => ?_) (fun c_23 => ?_)
  · refine wh_aload_n (pc := 28) d_Ln_tug_28 rfl rfl ?_
    refine gf_Ln_9 (pc := 29) hb rfl d_Ln_tug_29 ?_
    refine wh_iload_n (pc := 32) d_Ln_tug_32 rfl rfl ?_
    refine wh_iald (pc := 33) d_Ln_tug_33 (la_spots hb) (in_nI (by omega) (by omega)) ?_
    refine wh_aload_n (pc := 34) d_Ln_tug_34 rfl rfl ?_
    refine gf_Ln_24 (pc := 35) hb rfl d_Ln_tug_35 ?_
    refine wh_iload_n (pc := 38) d_Ln_tug_38 rfl rfl ?_
    refine wh_iald (pc := 39) d_Ln_tug_39 (la_seats hb) (in_nI (by omega) (by omega)) ?_
    refine wh_isub (pc := 40) d_Ln_tug_40 ?_
    refine wh_mabs (pc := 41) d_Ln_tug_41 ml_Ln_56 ⟨by decide, Nat.le_of_ble_eq_true rfl⟩ ?_
    refine wh_istore_n (pc := 44) (ls2 := [_, _, _, _]) d_Ln_tug_44 rfl (by decide) rfl rfl ?_
    refine wh_iconst (pc := 45) (v := 0) d_Ln_tug_45 (by decide) ?_
    refine wh_aload_n (pc := 46) d_Ln_tug_46 rfl rfl ?_
    refine wh_iload_n (pc := 47) d_Ln_tug_47 rfl rfl ?_
    refine cv_Ln_62_d (pc := 48) hb rfl d_Ln_tug_48 ⟨⟨by decide, by decide⟩, rfl, rfl⟩ (s_glow hb hF hk) (Nat.le_of_ble_eq_true rfl) ?_
    refine wh_aload_n (pc := 51) d_Ln_tug_51 rfl rfl ?_
    refine wh_aload_n (pc := 52) d_Ln_tug_52 rfl rfl ?_
    refine gf_Ln_24 (pc := 53) hb rfl d_Ln_tug_53 ?_
    refine wh_iload_n (pc := 56) d_Ln_tug_56 rfl rfl ?_
    refine wh_iald (pc := 57) d_Ln_tug_57 (la_seats hb) (in_nI (by omega) (by omega)) ?_
    refine wh_aload_n (pc := 58) d_Ln_tug_58 rfl rfl ?_
    refine gf_Ln_9 (pc := 59) hb rfl d_Ln_tug_59 ?_
    refine wh_iload_n (pc := 62) d_Ln_tug_62 rfl rfl ?_
    refine wh_iald (pc := 63) d_Ln_tug_63 (la_spots hb) (in_nI (by omega) (by omega)) ?_
    refine cv_Ln_65_d (pc := 64) hb rfl d_Ln_tug_64 ⟨⟨by decide, by decide⟩, rfl, rfl⟩ (s_windHelp hb) (Nat.le_of_ble_eq_true rfl) ?_
    refine wh_iadd (pc := 67) d_Ln_tug_67 ?_
    refine wh_aload_n (pc := 68) d_Ln_tug_68 rfl rfl ?_
    refine wh_iload_n (pc := 69) d_Ln_tug_69 rfl rfl ?_
    refine wh_iload_n (pc := 70) d_Ln_tug_70 rfl rfl ?_
    refine cv_Ln_69_d (pc := 71) hb rfl d_Ln_tug_71 ⟨⟨by decide, by decide⟩, rfl, rfl⟩ (s_sweet hb hF hk hj) (Nat.le_of_ble_eq_true rfl) ?_
    refine wh_iadd (pc := 74) d_Ln_tug_74 ?_
    refine wh_iload_n (pc := 75) d_Ln_tug_75 rfl rfl ?_
    refine wh_isub (pc := 76) d_Ln_tug_76 ?_
    refine wh_mmax (pc := 77) d_Ln_tug_77 ml_Ln_72 ⟨by decide, Nat.le_of_ble_eq_true rfl⟩ ?_
    refine wh_iret (pc := 80) d_Ln_tug_80 rfl ?_
    refine ⟨rfl, ?_⟩
    rw [pull_class hF hk hj]
    simp only [cl_nI (show k < 2 ^ 31 by omega), cl_nI (show j < 2 ^ 31 by omega), la0 hk, la1 hk, la3 hj] at *
    rw [if_neg (show ¬ laneS h b 1 k < 1 by rw [i_lt, i_1]; rw [i_le, i_1] at c_23; omega)]
    rfl
  · refine wh_iconst (pc := 26) (v := 0) d_Ln_tug_26 (by decide) ?_
    refine wh_iret (pc := 27) d_Ln_tug_27 rfl ?_
    refine ⟨rfl, ?_⟩
    rw [pull_class hF hk hj]
    rw [cl_nI (show k < 2 ^ 31 by omega), la1 hk] at c_23
    rw [if_pos (by rw [i_lt, i_1]; rw [i_le, i_1] at c_23; omega)]

theorem s_clear {l : Launch} {D : va_G} {base : Nat} {b : Nat} (hb : IsLane b) {h : Hp} : SD l D base M_Ln_clear [.ref b] h none (sI (sI (sI (sI (sI h b 6 0) b 7 0) b 8 1) b 9 9) b 10 0) := by
  refine SP.of [some (.ref b)] (by decide) rfl (Nat.le_of_ble_eq_true rfl) ?_
  refine wh_aload_n (pc := 0) d_Ln_clear_0 rfl rfl ?_
  refine wh_iconst (pc := 1) (v := 0) d_Ln_clear_1 (by decide) ?_
  refine pf_Ln_30 (pc := 2) hb rfl d_Ln_clear_2 ?_
  refine wh_aload_n (pc := 5) d_Ln_clear_5 rfl rfl ?_
  refine wh_iconst (pc := 6) (v := 0) d_Ln_clear_6 (by decide) ?_
  refine pf_Ln_34 (pc := 7) hb rfl d_Ln_clear_7 ?_
  refine wh_aload_n (pc := 10) d_Ln_clear_10 rfl rfl ?_
  refine wh_iconst (pc := 11) (v := 1) d_Ln_clear_11 (by decide) ?_
  refine pf_Ln_37 (pc := 12) hb rfl d_Ln_clear_12 ?_
  refine wh_aload_n (pc := 15) d_Ln_clear_15 rfl rfl ?_
  refine wh_bipush (pc := 16) (v := 9) d_Ln_clear_16 (by decide) ?_
  refine pf_Ln_40 (pc := 18) hb rfl d_Ln_clear_18 ?_
  refine wh_aload_n (pc := 21) d_Ln_clear_21 rfl rfl ?_
  refine wh_iconst (pc := 22) (v := 0) d_Ln_clear_22 (by decide) ?_
  refine pf_Ln_43 (pc := 23) hb rfl d_Ln_clear_23 ?_
  refine wh_vret (pc := 26) d_Ln_clear_26 rfl ?_
  exact ⟨rfl, rfl⟩
theorem s_addWindow {l : Launch} {D : va_G} {base : Nat} {b : Nat} (hb : IsLane b) {h : Hp} {n : Nat} (hn : gI h b 6 = nI n) (h5 : n < 5) {x y t : Int32} : SD l D base M_Ln_addWindow [.ref b, .int x, .int y, .int t] h (some (.int 1)) (sI (sI (sI (sI (sI h (b + 1) n x) (b + 2) n y) (b + 3) n t) (b + 4) n 0) b 6 (nI (n + 1))) := by
  refine SP.of [some (.ref b), some (.int x), some (.int y), some (.int t)] (by decide) rfl (Nat.le_of_ble_eq_true rfl) ?_
  have hv : vp_in (gI h b 6) 5 := by rw [hn]; exact in_nI h5 (by omega)
  refine wh_aload_n (pc := 0) d_Ln_addWindow_0 rfl rfl ?_
  refine gf_Ln_30 (pc := 1) hb rfl d_Ln_addWindow_1 ?_
  refine wh_if_lt (pc := 4) (tgt := 15) d_Ln_addWindow_4 (by decide) (fun c_4 => absurd c_4 (by rw [hn]; exact nI_pos (by omega))) (fun c_4 => ?_)
  refine wh_aload_n (pc := 7) d_Ln_addWindow_7 rfl rfl ?_
  refine gf_Ln_30 (pc := 8) hb rfl d_Ln_addWindow_8 ?_
  refine wh_iconst (pc := 11) (v := 5) d_Ln_addWindow_11 (by decide) ?_
  refine wh_icmp_lt (pc := 12) (tgt := 17) d_Ln_addWindow_12 (by decide) (fun c_12 => ?_) (fun c_12 => absurd (by rw [hn]; exact nI_lt h5 (by decide)) c_12)
  refine wh_aload_n (pc := 17) d_Ln_addWindow_17 rfl rfl ?_
  refine gf_Ln_9 (pc := 18) hb rfl d_Ln_addWindow_18 ?_
  refine wh_aload_n (pc := 21) d_Ln_addWindow_21 rfl rfl ?_
  refine gf_Ln_30 (pc := 22) hb rfl d_Ln_addWindow_22 ?_
  refine wh_iload_n (pc := 25) d_Ln_addWindow_25 rfl rfl ?_
  refine wh_iast (pc := 26) d_Ln_addWindow_26 (la_spots hb) (by first | exact hv | (simp (disch := omega) only [gI_sN]; exact hv)) ?_
  refine wh_aload_n (pc := 27) d_Ln_addWindow_27 rfl rfl ?_
  refine gf_Ln_15 (pc := 28) hb rfl d_Ln_addWindow_28 ?_
  refine wh_aload_n (pc := 31) d_Ln_addWindow_31 rfl rfl ?_
  refine gf_Ln_30 (pc := 32) hb rfl d_Ln_addWindow_32 ?_
  refine wh_iload_n (pc := 35) d_Ln_addWindow_35 rfl rfl ?_
  refine wh_iast (pc := 36) d_Ln_addWindow_36 (la_burns hb) (by first | exact hv | (simp (disch := omega) only [gI_sN]; exact hv)) ?_
  refine wh_aload_n (pc := 37) d_Ln_addWindow_37 rfl rfl ?_
  refine gf_Ln_18 (pc := 38) hb rfl d_Ln_addWindow_38 ?_
  refine wh_aload_n (pc := 41) d_Ln_addWindow_41 rfl rfl ?_
  refine gf_Ln_30 (pc := 42) hb rfl d_Ln_addWindow_42 ?_
  refine wh_iload_n (pc := 45) d_Ln_addWindow_45 rfl rfl ?_
  refine wh_iast (pc := 46) d_Ln_addWindow_46 (la_kinds hb) (by first | exact hv | (simp (disch := omega) only [gI_sN]; exact hv)) ?_
  refine wh_aload_n (pc := 47) d_Ln_addWindow_47 rfl rfl ?_
  refine gf_Ln_21 (pc := 48) hb rfl d_Ln_addWindow_48 ?_
  refine wh_aload_n (pc := 51) d_Ln_addWindow_51 rfl rfl ?_
  refine gf_Ln_30 (pc := 52) hb rfl d_Ln_addWindow_52 ?_
  refine wh_iconst (pc := 55) (v := 0) d_Ln_addWindow_55 (by decide) ?_
  refine wh_iast (pc := 56) d_Ln_addWindow_56 (la_paid hb) (by first | exact hv | (simp (disch := omega) only [gI_sN]; exact hv)) ?_
  refine wh_aload_n (pc := 57) d_Ln_addWindow_57 rfl rfl ?_
  refine wh_dup (pc := 58) d_Ln_addWindow_58 rfl ?_
  refine gf_Ln_30 (pc := 59) hb rfl d_Ln_addWindow_59 ?_
  refine wh_iconst (pc := 62) (v := 1) d_Ln_addWindow_62 (by decide) ?_
  refine wh_iadd (pc := 63) d_Ln_addWindow_63 ?_
  refine pf_Ln_30 (pc := 64) hb rfl d_Ln_addWindow_64 ?_
  refine wh_iconst (pc := 67) (v := 1) d_Ln_addWindow_67 (by decide) ?_
  refine wh_zret (pc := 68) d_Ln_addWindow_68 rfl rfl ?_
  refine ⟨?_, rfl⟩
  simp (disch := omega) only [gI_sN, hn, cl_nI, nI_1]
theorem s_addMoth {l : Launch} {D : va_G} {base : Nat} {b : Nat} (hb : IsLane b) {h : Hp} {n : Nat} (hn : gI h b 7 = nI n) (h6 : n < 6) {x t : Int32} : SD l D base M_Ln_addMoth [.ref b, .int x, .int t] h (some (.int 1)) (sI (sI (sI h (b + 5) n x) (b + 6) n t) b 7 (nI (n + 1))) := by
  refine SP.of [some (.ref b), some (.int x), some (.int t)] (by decide) rfl (Nat.le_of_ble_eq_true rfl) ?_
  have hv : vp_in (gI h b 7) 6 := by rw [hn]; exact in_nI h6 (by omega)
  refine wh_aload_n (pc := 0) d_Ln_addMoth_0 rfl rfl ?_
  refine gf_Ln_34 (pc := 1) hb rfl d_Ln_addMoth_1 ?_
  refine wh_if_lt (pc := 4) (tgt := 16) d_Ln_addMoth_4 (by decide) (fun c_4 => absurd c_4 (by rw [hn]; exact nI_pos (by omega))) (fun c_4 => ?_)
  refine wh_aload_n (pc := 7) d_Ln_addMoth_7 rfl rfl ?_
  refine gf_Ln_34 (pc := 8) hb rfl d_Ln_addMoth_8 ?_
  refine wh_bipush (pc := 11) (v := 6) d_Ln_addMoth_11 (by decide) ?_
  refine wh_icmp_lt (pc := 13) (tgt := 18) d_Ln_addMoth_13 (by decide) (fun c_13 => ?_) (fun c_13 => absurd (by rw [hn]; exact nI_lt h6 (by decide)) c_13)
  refine wh_aload_n (pc := 18) d_Ln_addMoth_18 rfl rfl ?_
  refine gf_Ln_24 (pc := 19) hb rfl d_Ln_addMoth_19 ?_
  refine wh_aload_n (pc := 22) d_Ln_addMoth_22 rfl rfl ?_
  refine gf_Ln_34 (pc := 23) hb rfl d_Ln_addMoth_23 ?_
  refine wh_iload_n (pc := 26) d_Ln_addMoth_26 rfl rfl ?_
  refine wh_iast (pc := 27) d_Ln_addMoth_27 (la_seats hb) (by first | exact hv | (simp (disch := omega) only [gI_sN]; exact hv)) ?_
  refine wh_aload_n (pc := 28) d_Ln_addMoth_28 rfl rfl ?_
  refine gf_Ln_27 (pc := 29) hb rfl d_Ln_addMoth_29 ?_
  refine wh_aload_n (pc := 32) d_Ln_addMoth_32 rfl rfl ?_
  refine gf_Ln_34 (pc := 33) hb rfl d_Ln_addMoth_33 ?_
  refine wh_iload_n (pc := 36) d_Ln_addMoth_36 rfl rfl ?_
  refine wh_iast (pc := 37) d_Ln_addMoth_37 (la_sorts hb) (by first | exact hv | (simp (disch := omega) only [gI_sN]; exact hv)) ?_
  refine wh_aload_n (pc := 38) d_Ln_addMoth_38 rfl rfl ?_
  refine wh_dup (pc := 39) d_Ln_addMoth_39 rfl ?_
  refine gf_Ln_34 (pc := 40) hb rfl d_Ln_addMoth_40 ?_
  refine wh_iconst (pc := 43) (v := 1) d_Ln_addMoth_43 (by decide) ?_
  refine wh_iadd (pc := 44) d_Ln_addMoth_44 ?_
  refine pf_Ln_34 (pc := 45) hb rfl d_Ln_addMoth_45 ?_
  refine wh_iconst (pc := 48) (v := 1) d_Ln_addMoth_48 (by decide) ?_
  refine wh_zret (pc := 49) d_Ln_addMoth_49 rfl rfl ?_
  refine ⟨?_, rfl⟩
  simp (disch := omega) only [gI_sN, hn, cl_nI, nI_1]
theorem s_copy {l : Launch} {D : va_G} {base : Nat} {b : Nat} (hb : IsLane b) {a : Nat} (hb1 : IsLane a) (hne : a ≠ b) {h : Hp} : SD l D base M_Ln_copyFrom [.ref b, .ref a] h none (cpN h b a 5 6) := by
  refine SP.of [some (.ref b), some (.ref a), none] (by decide) rfl (Nat.le_of_ble_eq_true rfl) ?_
  have hab : a + 7 < b ∨ b + 7 < a := by rcases hb with rfl | rfl <;> rcases hb1 with rfl | rfl <;> omega
  refine wh_aload_n (pc := 0) d_Ln_copyFrom_0 rfl rfl ?_
  refine wh_aload_n (pc := 1) d_Ln_copyFrom_1 rfl rfl ?_
  refine gf_Ln_30 (pc := 2) hb1 rfl d_Ln_copyFrom_2 ?_
  refine pf_Ln_30 (pc := 5) hb rfl d_Ln_copyFrom_5 ?_
  refine wh_aload_n (pc := 8) d_Ln_copyFrom_8 rfl rfl ?_
  refine wh_aload_n (pc := 9) d_Ln_copyFrom_9 rfl rfl ?_
  refine gf_Ln_34 (pc := 10) hb1 rfl d_Ln_copyFrom_10 ?_
  refine pf_Ln_34 (pc := 13) hb rfl d_Ln_copyFrom_13 ?_
  refine wh_aload_n (pc := 16) d_Ln_copyFrom_16 rfl rfl ?_
  refine wh_aload_n (pc := 17) d_Ln_copyFrom_17 rfl rfl ?_
  refine gf_Ln_37 (pc := 18) hb1 rfl d_Ln_copyFrom_18 ?_
  refine pf_Ln_37 (pc := 21) hb rfl d_Ln_copyFrom_21 ?_
  refine wh_aload_n (pc := 24) d_Ln_copyFrom_24 rfl rfl ?_
  refine wh_aload_n (pc := 25) d_Ln_copyFrom_25 rfl rfl ?_
  refine gf_Ln_40 (pc := 26) hb1 rfl d_Ln_copyFrom_26 ?_
  refine pf_Ln_40 (pc := 29) hb rfl d_Ln_copyFrom_29 ?_
  refine wh_aload_n (pc := 32) d_Ln_copyFrom_32 rfl rfl ?_
  refine wh_aload_n (pc := 33) d_Ln_copyFrom_33 rfl rfl ?_
  refine gf_Ln_43 (pc := 34) hb1 rfl d_Ln_copyFrom_34 ?_
  refine pf_Ln_43 (pc := 37) hb rfl d_Ln_copyFrom_37 ?_
  refine wh_iconst (pc := 40) (v := 0) d_Ln_copyFrom_40 (by decide) ?_
  refine wh_istore_n (pc := 41) (ls2 := [_, _, _]) d_Ln_copyFrom_41 rfl (by decide) rfl rfl ?_
  refine wh_eq (wh_loop (5) (fun i => [some (.ref b), some (.ref a), some (.int (nI i))]) (fun i => cpN h b a i 0) (fun i => True) ?_ ?_ 0 (Nat.zero_le _) trivial) rfl rfl ?_
  · intro _
    refine wh_iload_n (pc := 42) d_Ln_copyFrom_42 rfl rfl ?_
    refine wh_iconst (pc := 43) (v := 5) d_Ln_copyFrom_43 (by decide) ?_
    refine wh_icmp_ge (pc := 44) (tgt := 101) d_Ln_copyFrom_44 (by decide) (fun c_44 => ?_) (fun c_44 => absurd (by decide) c_44)
    refine wh_iconst (pc := 101) (v := 0) d_Ln_copyFrom_101 (by decide) ?_
    refine wh_istore_n (pc := 102) (ls2 := [_, _, _]) d_Ln_copyFrom_102 rfl (by decide) rfl rfl ?_
    refine wh_eq (wh_loop (6) (fun i => [some (.ref b), some (.ref a), some (.int (nI i))]) (fun i => cpN h b a 5 i) (fun i => True) ?_ ?_ 0 (Nat.zero_le _) trivial) rfl rfl rfl
    · intro _
      refine wh_iload_n (pc := 103) d_Ln_copyFrom_103 rfl rfl ?_
      refine wh_bipush (pc := 104) (v := 6) d_Ln_copyFrom_104 (by decide) ?_
      refine wh_icmp_ge (pc := 106) (tgt := 139) d_Ln_copyFrom_106 (by decide) (fun c_106 => ?_) (fun c_106 => absurd (by decide) c_106)
      refine wh_vret (pc := 139) d_Ln_copyFrom_139 rfl ?_
      exact ⟨rfl, rfl⟩
    · intro i hi _ ih
      refine wh_iload_n (pc := 103) d_Ln_copyFrom_103 rfl rfl ?_
      refine wh_bipush (pc := 104) (v := 6) d_Ln_copyFrom_104 (by decide) ?_
      refine wh_icmp_ge (pc := 106) (tgt := 139) d_Ln_copyFrom_106 (by decide) (fun c_106 => absurd c_106 (nI_ge hi (by decide))) (fun c_106 => ?_)
      refine wh_aload_n (pc := 109) d_Ln_copyFrom_109 rfl rfl ?_
      refine gf_Ln_24 (pc := 110) hb rfl d_Ln_copyFrom_110 ?_
      refine wh_iload_n (pc := 113) d_Ln_copyFrom_113 rfl rfl ?_
      refine wh_aload_n (pc := 114) d_Ln_copyFrom_114 rfl rfl ?_
      refine gf_Ln_24 (pc := 115) hb1 rfl d_Ln_copyFrom_115 ?_
      refine wh_iload_n (pc := 118) d_Ln_copyFrom_118 rfl rfl ?_
      refine wh_iald (pc := 119) d_Ln_copyFrom_119 (la_seats hb1) (in_nI (by omega) (by omega)) ?_
      refine wh_iast (pc := 120) d_Ln_copyFrom_120 (la_seats hb) (in_nI (by omega) (by omega)) ?_
      refine wh_aload_n (pc := 121) d_Ln_copyFrom_121 rfl rfl ?_
      refine gf_Ln_27 (pc := 122) hb rfl d_Ln_copyFrom_122 ?_
      refine wh_iload_n (pc := 125) d_Ln_copyFrom_125 rfl rfl ?_
      refine wh_aload_n (pc := 126) d_Ln_copyFrom_126 rfl rfl ?_
      refine gf_Ln_27 (pc := 127) hb1 rfl d_Ln_copyFrom_127 ?_
      refine wh_iload_n (pc := 130) d_Ln_copyFrom_130 rfl rfl ?_
      refine wh_iald (pc := 131) d_Ln_copyFrom_131 (la_sorts hb1) (in_nI (by omega) (by omega)) ?_
      refine wh_iast (pc := 132) d_Ln_copyFrom_132 (la_sorts hb) (in_nI (by omega) (by omega)) ?_
      refine wh_iinc (pc := 133) (ls2 := [_, _, _]) d_Ln_copyFrom_133 rfl (nI_inc _) (by decide) rfl rfl ?_
      refine wh_goto (pc := 136) (tgt := 103) d_Ln_copyFrom_136 (by decide) ?_
      simp only [cl_nI (show i < 2 ^ 31 by omega)]
      refine wh_eq (ih trivial) rfl rfl ?_
      rw [gI_sN (by omega), cp_src hab (by omega) (by omega), cp_src hab (by omega) (by omega)]
      exact cp_m h b a i hab
  · intro i hi _ ih
    refine wh_iload_n (pc := 42) d_Ln_copyFrom_42 rfl rfl ?_
    refine wh_iconst (pc := 43) (v := 5) d_Ln_copyFrom_43 (by decide) ?_
    refine wh_icmp_ge (pc := 44) (tgt := 101) d_Ln_copyFrom_44 (by decide) (fun c_44 => absurd c_44 (nI_ge hi (by decide))) (fun c_44 => ?_)
    refine wh_aload_n (pc := 47) d_Ln_copyFrom_47 rfl rfl ?_
    refine gf_Ln_9 (pc := 48) hb rfl d_Ln_copyFrom_48 ?_
    refine wh_iload_n (pc := 51) d_Ln_copyFrom_51 rfl rfl ?_
    refine wh_aload_n (pc := 52) d_Ln_copyFrom_52 rfl rfl ?_
    refine gf_Ln_9 (pc := 53) hb1 rfl d_Ln_copyFrom_53 ?_
    refine wh_iload_n (pc := 56) d_Ln_copyFrom_56 rfl rfl ?_
    refine wh_iald (pc := 57) d_Ln_copyFrom_57 (la_spots hb1) (in_nI (by omega) (by omega)) ?_
    refine wh_iast (pc := 58) d_Ln_copyFrom_58 (la_spots hb) (in_nI (by omega) (by omega)) ?_
    refine wh_aload_n (pc := 59) d_Ln_copyFrom_59 rfl rfl ?_
    refine gf_Ln_15 (pc := 60) hb rfl d_Ln_copyFrom_60 ?_
    refine wh_iload_n (pc := 63) d_Ln_copyFrom_63 rfl rfl ?_
    refine wh_aload_n (pc := 64) d_Ln_copyFrom_64 rfl rfl ?_
    refine gf_Ln_15 (pc := 65) hb1 rfl d_Ln_copyFrom_65 ?_
    refine wh_iload_n (pc := 68) d_Ln_copyFrom_68 rfl rfl ?_
    refine wh_iald (pc := 69) d_Ln_copyFrom_69 (la_burns hb1) (in_nI (by omega) (by omega)) ?_
    refine wh_iast (pc := 70) d_Ln_copyFrom_70 (la_burns hb) (in_nI (by omega) (by omega)) ?_
    refine wh_aload_n (pc := 71) d_Ln_copyFrom_71 rfl rfl ?_
    refine gf_Ln_18 (pc := 72) hb rfl d_Ln_copyFrom_72 ?_
    refine wh_iload_n (pc := 75) d_Ln_copyFrom_75 rfl rfl ?_
    refine wh_aload_n (pc := 76) d_Ln_copyFrom_76 rfl rfl ?_
    refine gf_Ln_18 (pc := 77) hb1 rfl d_Ln_copyFrom_77 ?_
    refine wh_iload_n (pc := 80) d_Ln_copyFrom_80 rfl rfl ?_
    refine wh_iald (pc := 81) d_Ln_copyFrom_81 (la_kinds hb1) (in_nI (by omega) (by omega)) ?_
    refine wh_iast (pc := 82) d_Ln_copyFrom_82 (la_kinds hb) (in_nI (by omega) (by omega)) ?_
    refine wh_aload_n (pc := 83) d_Ln_copyFrom_83 rfl rfl ?_
    refine gf_Ln_21 (pc := 84) hb rfl d_Ln_copyFrom_84 ?_
    refine wh_iload_n (pc := 87) d_Ln_copyFrom_87 rfl rfl ?_
    refine wh_aload_n (pc := 88) d_Ln_copyFrom_88 rfl rfl ?_
    refine gf_Ln_21 (pc := 89) hb1 rfl d_Ln_copyFrom_89 ?_
    refine wh_iload_n (pc := 92) d_Ln_copyFrom_92 rfl rfl ?_
    refine wh_iald (pc := 93) d_Ln_copyFrom_93 (la_paid hb1) (in_nI (by omega) (by omega)) ?_
    refine wh_iast (pc := 94) d_Ln_copyFrom_94 (la_paid hb) (in_nI (by omega) (by omega)) ?_
    refine wh_iinc (pc := 95) (ls2 := [_, _, _]) d_Ln_copyFrom_95 rfl (nI_inc _) (by decide) rfl rfl ?_
    refine wh_goto (pc := 98) (tgt := 42) d_Ln_copyFrom_98 (by decide) ?_
    simp only [cl_nI (show i < 2 ^ 31 by omega)]
    refine wh_eq (ih trivial) rfl rfl ?_
    simp (disch := omega) only [gI_sN, cp_src hab]
    exact cp_n h b a i hab
  · simp (disch := omega) only [gI_sN]
    exact cp_0 h b a
theorem s_save {l : Launch} {D : va_G} {base : Nat} {b : Nat} (hb : IsLane b) {r : Nat} (hr : SH[r]? = some (.inl (0, 19))) (hrb : b + 7 < r) {h : Hp} : SD l D base M_Ln_save [.ref b, .ref r] h none (svN h b r 5 6 3) := by
  refine SP.of [some (.ref b), some (.ref r), none] (by decide) rfl (Nat.le_of_ble_eq_true rfl) ?_
  refine wh_aload_n (pc := 0) d_Ln_save_0 rfl rfl ?_
  refine wh_ifnull (pc := 1) d_Ln_save_1 ?_
  refine wh_aload_n (pc := 4) d_Ln_save_4 rfl rfl ?_
  refine wh_alen (pc := 5) d_Ln_save_5 hr ?_
  refine wh_bipush (pc := 6) (v := 19) d_Ln_save_6 (by decide) ?_
  refine wh_icmp_ge (pc := 8) (tgt := 12) d_Ln_save_8 (by decide) (fun c_8 => ?_) (fun c_8 => absurd (by decide) c_8)
  refine wh_iconst (pc := 12) (v := 0) d_Ln_save_12 (by decide) ?_
  refine wh_istore_n (pc := 13) (ls2 := [_, _, _]) d_Ln_save_13 rfl (by decide) rfl rfl ?_
  refine wh_eq (wh_loop (5) (fun i => [some (.ref b), some (.ref r), some (.int (nI i))]) (fun i => svN h b r i 0 0) (fun i => True) ?_ ?_ 0 (Nat.zero_le _) trivial) rfl rfl ?_
  · intro _
    refine wh_iload_n (pc := 14) d_Ln_save_14 rfl rfl ?_
    refine wh_iconst (pc := 15) (v := 5) d_Ln_save_15 (by decide) ?_
    refine wh_icmp_ge (pc := 16) (tgt := 46) d_Ln_save_16 (by decide) (fun c_16 => ?_) (fun c_16 => absurd (by decide) c_16)
    refine wh_iconst (pc := 46) (v := 0) d_Ln_save_46 (by decide) ?_
    refine wh_istore_n (pc := 47) (ls2 := [_, _, _]) d_Ln_save_47 rfl (by decide) rfl rfl ?_
    refine wh_eq (wh_loop (6) (fun i => [some (.ref b), some (.ref r), some (.int (nI i))]) (fun i => svN h b r 5 i 0) (fun i => True) ?_ ?_ 0 (Nat.zero_le _) trivial) rfl rfl rfl
    · intro _
      refine wh_iload_n (pc := 48) d_Ln_save_48 rfl rfl ?_
      refine wh_bipush (pc := 49) (v := 6) d_Ln_save_49 (by decide) ?_
      refine wh_icmp_ge (pc := 51) (tgt := 71) d_Ln_save_51 (by decide) (fun c_51 => ?_) (fun c_51 => absurd (by decide) c_51)
      refine wh_aload_n (pc := 71) d_Ln_save_71 rfl rfl ?_
      refine wh_bipush (pc := 72) (v := 16) d_Ln_save_72 (by decide) ?_
      refine wh_aload_n (pc := 74) d_Ln_save_74 rfl rfl ?_
      refine gf_Ln_37 (pc := 75) hb rfl d_Ln_save_75 ?_
      refine wh_iast (pc := 78) d_Ln_save_78 hr (by first | exact in_nI (by omega) (by omega) | (rw [show (11 : Int32) + nI i = nI (11 + i) from nI_add 11 i]; exact in_nI (by omega) (by omega)) | (rw [show (5 : Int32) + nI i = nI (5 + i) from nI_add 5 i]; exact in_nI (by omega) (by omega)) | exact vp_in_iff.mpr (by decide)) ?_
      refine wh_aload_n (pc := 79) d_Ln_save_79 rfl rfl ?_
      refine wh_bipush (pc := 80) (v := 17) d_Ln_save_80 (by decide) ?_
      refine wh_aload_n (pc := 82) d_Ln_save_82 rfl rfl ?_
      refine gf_Ln_40 (pc := 83) hb rfl d_Ln_save_83 ?_
      refine wh_iast (pc := 86) d_Ln_save_86 hr (by first | exact in_nI (by omega) (by omega) | (rw [show (11 : Int32) + nI i = nI (11 + i) from nI_add 11 i]; exact in_nI (by omega) (by omega)) | (rw [show (5 : Int32) + nI i = nI (5 + i) from nI_add 5 i]; exact in_nI (by omega) (by omega)) | exact vp_in_iff.mpr (by decide)) ?_
      refine wh_aload_n (pc := 87) d_Ln_save_87 rfl rfl ?_
      refine wh_bipush (pc := 88) (v := 18) d_Ln_save_88 (by decide) ?_
      refine wh_aload_n (pc := 90) d_Ln_save_90 rfl rfl ?_
      refine gf_Ln_43 (pc := 91) hb rfl d_Ln_save_91 ?_
      refine wh_iast (pc := 94) d_Ln_save_94 hr (by first | exact in_nI (by omega) (by omega) | (rw [show (11 : Int32) + nI i = nI (11 + i) from nI_add 11 i]; exact in_nI (by omega) (by omega)) | (rw [show (5 : Int32) + nI i = nI (5 + i) from nI_add 5 i]; exact in_nI (by omega) (by omega)) | exact vp_in_iff.mpr (by decide)) ?_
      refine wh_vret (pc := 95) d_Ln_save_95 rfl ?_
      refine ⟨?_, rfl⟩
      simp (disch := omega) only [gI_sN, sv_out]
      exact sv_t h b r
    · intro i hi _ ih
      refine wh_iload_n (pc := 48) d_Ln_save_48 rfl rfl ?_
      refine wh_bipush (pc := 49) (v := 6) d_Ln_save_49 (by decide) ?_
      refine wh_icmp_ge (pc := 51) (tgt := 71) d_Ln_save_51 (by decide) (fun c_51 => absurd c_51 (nI_ge hi (by decide))) (fun c_51 => ?_)
      refine wh_aload_n (pc := 54) d_Ln_save_54 rfl rfl ?_
      refine wh_iconst (pc := 55) (v := 5) d_Ln_save_55 (by decide) ?_
      refine wh_iload_n (pc := 56) d_Ln_save_56 rfl rfl ?_
      refine wh_iadd (pc := 57) d_Ln_save_57 ?_
      refine wh_aload_n (pc := 58) d_Ln_save_58 rfl rfl ?_
      refine gf_Ln_24 (pc := 59) hb rfl d_Ln_save_59 ?_
      refine wh_iload_n (pc := 62) d_Ln_save_62 rfl rfl ?_
      refine wh_iald (pc := 63) d_Ln_save_63 (la_seats hb) (by first | exact in_nI (by omega) (by omega) | (rw [show (11 : Int32) + nI i = nI (11 + i) from nI_add 11 i]; exact in_nI (by omega) (by omega)) | (rw [show (5 : Int32) + nI i = nI (5 + i) from nI_add 5 i]; exact in_nI (by omega) (by omega)) | exact vp_in_iff.mpr (by decide)) ?_
      refine wh_iast (pc := 64) d_Ln_save_64 hr (by first | exact in_nI (by omega) (by omega) | (rw [show (11 : Int32) + nI i = nI (11 + i) from nI_add 11 i]; exact in_nI (by omega) (by omega)) | (rw [show (5 : Int32) + nI i = nI (5 + i) from nI_add 5 i]; exact in_nI (by omega) (by omega)) | exact vp_in_iff.mpr (by decide)) ?_
      refine wh_iinc (pc := 65) (ls2 := [_, _, _]) d_Ln_save_65 rfl (nI_inc _) (by decide) rfl rfl ?_
      refine wh_goto (pc := 68) (tgt := 48) d_Ln_save_68 (by decide) ?_
      simp only [cl_nI (show i < 2 ^ 31 by omega), show (11 : Int32) + nI i = nI (11 + i) from nI_add 11 i, show (5 : Int32) + nI i = nI (5 + i) from nI_add 5 i, cl_nI (show 11 + i < 2 ^ 31 by omega), cl_nI (show 5 + i < 2 ^ 31 by omega)]
      refine wh_eq (ih trivial) rfl rfl ?_
      simp (disch := omega) only [gI_sN, sv_out]
      exact sv_m h b r i hi
  · intro i hi _ ih
    refine wh_iload_n (pc := 14) d_Ln_save_14 rfl rfl ?_
    refine wh_iconst (pc := 15) (v := 5) d_Ln_save_15 (by decide) ?_
    refine wh_icmp_ge (pc := 16) (tgt := 46) d_Ln_save_16 (by decide) (fun c_16 => absurd c_16 (nI_ge hi (by decide))) (fun c_16 => ?_)
    refine wh_aload_n (pc := 19) d_Ln_save_19 rfl rfl ?_
    refine wh_iload_n (pc := 20) d_Ln_save_20 rfl rfl ?_
    refine wh_aload_n (pc := 21) d_Ln_save_21 rfl rfl ?_
    refine gf_Ln_15 (pc := 22) hb rfl d_Ln_save_22 ?_
    refine wh_iload_n (pc := 25) d_Ln_save_25 rfl rfl ?_
    refine wh_iald (pc := 26) d_Ln_save_26 (la_burns hb) (by first | exact in_nI (by omega) (by omega) | (rw [show (11 : Int32) + nI i = nI (11 + i) from nI_add 11 i]; exact in_nI (by omega) (by omega)) | (rw [show (5 : Int32) + nI i = nI (5 + i) from nI_add 5 i]; exact in_nI (by omega) (by omega)) | exact vp_in_iff.mpr (by decide)) ?_
    refine wh_iast (pc := 27) d_Ln_save_27 hr (by first | exact in_nI (by omega) (by omega) | (rw [show (11 : Int32) + nI i = nI (11 + i) from nI_add 11 i]; exact in_nI (by omega) (by omega)) | (rw [show (5 : Int32) + nI i = nI (5 + i) from nI_add 5 i]; exact in_nI (by omega) (by omega)) | exact vp_in_iff.mpr (by decide)) ?_
    refine wh_aload_n (pc := 28) d_Ln_save_28 rfl rfl ?_
    refine wh_bipush (pc := 29) (v := 11) d_Ln_save_29 (by decide) ?_
    refine wh_iload_n (pc := 31) d_Ln_save_31 rfl rfl ?_
    refine wh_iadd (pc := 32) d_Ln_save_32 ?_
    refine wh_aload_n (pc := 33) d_Ln_save_33 rfl rfl ?_
    refine gf_Ln_21 (pc := 34) hb rfl d_Ln_save_34 ?_
    refine wh_iload_n (pc := 37) d_Ln_save_37 rfl rfl ?_
    refine wh_iald (pc := 38) d_Ln_save_38 (la_paid hb) (by first | exact in_nI (by omega) (by omega) | (rw [show (11 : Int32) + nI i = nI (11 + i) from nI_add 11 i]; exact in_nI (by omega) (by omega)) | (rw [show (5 : Int32) + nI i = nI (5 + i) from nI_add 5 i]; exact in_nI (by omega) (by omega)) | exact vp_in_iff.mpr (by decide)) ?_
    refine wh_iast (pc := 39) d_Ln_save_39 hr (by first | exact in_nI (by omega) (by omega) | (rw [show (11 : Int32) + nI i = nI (11 + i) from nI_add 11 i]; exact in_nI (by omega) (by omega)) | (rw [show (5 : Int32) + nI i = nI (5 + i) from nI_add 5 i]; exact in_nI (by omega) (by omega)) | exact vp_in_iff.mpr (by decide)) ?_
    refine wh_iinc (pc := 40) (ls2 := [_, _, _]) d_Ln_save_40 rfl (nI_inc _) (by decide) rfl rfl ?_
    refine wh_goto (pc := 43) (tgt := 14) d_Ln_save_43 (by decide) ?_
    simp only [cl_nI (show i < 2 ^ 31 by omega), show (11 : Int32) + nI i = nI (11 + i) from nI_add 11 i, show (5 : Int32) + nI i = nI (5 + i) from nI_add 5 i, cl_nI (show 11 + i < 2 ^ 31 by omega), cl_nI (show 5 + i < 2 ^ 31 by omega)]
    refine wh_eq (ih trivial) rfl rfl ?_
    simp (disch := omega) only [gI_sN, sv_out]
    exact sv_n h b r i hi
  · exact (sv_0 h b r).symm
theorem s_load {l : Launch} {D : va_G} {base : Nat} {b : Nat} (hb : IsLane b) {r : Nat} (hr : SH[r]? = some (.inl (0, 19))) (hrb : b + 7 < r) {h : Hp} : SD l D base M_Ln_load [.ref b, .ref r] h none (ldN h b r 5 6 3) := by
  refine SP.of [some (.ref b), some (.ref r), none] (by decide) rfl (Nat.le_of_ble_eq_true rfl) ?_
  refine wh_aload_n (pc := 0) d_Ln_load_0 rfl rfl ?_
  refine wh_ifnull (pc := 1) d_Ln_load_1 ?_
  refine wh_aload_n (pc := 4) d_Ln_load_4 rfl rfl ?_
  refine wh_alen (pc := 5) d_Ln_load_5 hr ?_
  refine wh_bipush (pc := 6) (v := 19) d_Ln_load_6 (by decide) ?_
  refine wh_icmp_ge (pc := 8) (tgt := 12) d_Ln_load_8 (by decide) (fun c_8 => ?_) (fun c_8 => absurd (by decide) c_8)
  refine wh_iconst (pc := 12) (v := 0) d_Ln_load_12 (by decide) ?_
  refine wh_istore_n (pc := 13) (ls2 := [_, _, _]) d_Ln_load_13 rfl (by decide) rfl rfl ?_
  refine wh_eq (wh_loop (5) (fun i => [some (.ref b), some (.ref r), some (.int (nI i))]) (fun i => ldN h b r i 0 0) (fun i => True) ?_ ?_ 0 (Nat.zero_le _) trivial) rfl rfl ?_
  · intro _
    refine wh_iload_n (pc := 14) d_Ln_load_14 rfl rfl ?_
    refine wh_iconst (pc := 15) (v := 5) d_Ln_load_15 (by decide) ?_
    refine wh_icmp_ge (pc := 16) (tgt := 46) d_Ln_load_16 (by decide) (fun c_16 => ?_) (fun c_16 => absurd (by decide) c_16)
    refine wh_iconst (pc := 46) (v := 0) d_Ln_load_46 (by decide) ?_
    refine wh_istore_n (pc := 47) (ls2 := [_, _, _]) d_Ln_load_47 rfl (by decide) rfl rfl ?_
    refine wh_eq (wh_loop (6) (fun i => [some (.ref b), some (.ref r), some (.int (nI i))]) (fun i => ldN h b r 5 i 0) (fun i => True) ?_ ?_ 0 (Nat.zero_le _) trivial) rfl rfl rfl
    · intro _
      refine wh_iload_n (pc := 48) d_Ln_load_48 rfl rfl ?_
      refine wh_bipush (pc := 49) (v := 6) d_Ln_load_49 (by decide) ?_
      refine wh_icmp_ge (pc := 51) (tgt := 71) d_Ln_load_51 (by decide) (fun c_51 => ?_) (fun c_51 => absurd (by decide) c_51)
      refine wh_aload_n (pc := 71) d_Ln_load_71 rfl rfl ?_
      refine wh_aload_n (pc := 72) d_Ln_load_72 rfl rfl ?_
      refine wh_bipush (pc := 73) (v := 16) d_Ln_load_73 (by decide) ?_
      refine wh_iald (pc := 75) d_Ln_load_75 hr (by first | exact in_nI (by omega) (by omega) | (rw [show (11 : Int32) + nI i = nI (11 + i) from nI_add 11 i]; exact in_nI (by omega) (by omega)) | (rw [show (5 : Int32) + nI i = nI (5 + i) from nI_add 5 i]; exact in_nI (by omega) (by omega)) | exact vp_in_iff.mpr (by decide)) ?_
      refine pf_Ln_37 (pc := 76) hb rfl d_Ln_load_76 ?_
      refine wh_aload_n (pc := 79) d_Ln_load_79 rfl rfl ?_
      refine wh_aload_n (pc := 80) d_Ln_load_80 rfl rfl ?_
      refine wh_bipush (pc := 81) (v := 17) d_Ln_load_81 (by decide) ?_
      refine wh_iald (pc := 83) d_Ln_load_83 hr (by first | exact in_nI (by omega) (by omega) | (rw [show (11 : Int32) + nI i = nI (11 + i) from nI_add 11 i]; exact in_nI (by omega) (by omega)) | (rw [show (5 : Int32) + nI i = nI (5 + i) from nI_add 5 i]; exact in_nI (by omega) (by omega)) | exact vp_in_iff.mpr (by decide)) ?_
      refine pf_Ln_40 (pc := 84) hb rfl d_Ln_load_84 ?_
      refine wh_aload_n (pc := 87) d_Ln_load_87 rfl rfl ?_
      refine wh_aload_n (pc := 88) d_Ln_load_88 rfl rfl ?_
      refine wh_bipush (pc := 89) (v := 18) d_Ln_load_89 (by decide) ?_
      refine wh_iald (pc := 91) d_Ln_load_91 hr (by first | exact in_nI (by omega) (by omega) | (rw [show (11 : Int32) + nI i = nI (11 + i) from nI_add 11 i]; exact in_nI (by omega) (by omega)) | (rw [show (5 : Int32) + nI i = nI (5 + i) from nI_add 5 i]; exact in_nI (by omega) (by omega)) | exact vp_in_iff.mpr (by decide)) ?_
      refine pf_Ln_43 (pc := 92) hb rfl d_Ln_load_92 ?_
      refine wh_vret (pc := 95) d_Ln_load_95 rfl ?_
      refine ⟨?_, rfl⟩
      simp (disch := omega) only [gI_sN, ld_row]
      exact ld_t h b r
    · intro i hi _ ih
      refine wh_iload_n (pc := 48) d_Ln_load_48 rfl rfl ?_
      refine wh_bipush (pc := 49) (v := 6) d_Ln_load_49 (by decide) ?_
      refine wh_icmp_ge (pc := 51) (tgt := 71) d_Ln_load_51 (by decide) (fun c_51 => absurd c_51 (nI_ge hi (by decide))) (fun c_51 => ?_)
      refine wh_aload_n (pc := 54) d_Ln_load_54 rfl rfl ?_
      refine gf_Ln_24 (pc := 55) hb rfl d_Ln_load_55 ?_
      refine wh_iload_n (pc := 58) d_Ln_load_58 rfl rfl ?_
      refine wh_aload_n (pc := 59) d_Ln_load_59 rfl rfl ?_
      refine wh_iconst (pc := 60) (v := 5) d_Ln_load_60 (by decide) ?_
      refine wh_iload_n (pc := 61) d_Ln_load_61 rfl rfl ?_
      refine wh_iadd (pc := 62) d_Ln_load_62 ?_
      refine wh_iald (pc := 63) d_Ln_load_63 hr (by first | exact in_nI (by omega) (by omega) | (rw [show (11 : Int32) + nI i = nI (11 + i) from nI_add 11 i]; exact in_nI (by omega) (by omega)) | (rw [show (5 : Int32) + nI i = nI (5 + i) from nI_add 5 i]; exact in_nI (by omega) (by omega)) | exact vp_in_iff.mpr (by decide)) ?_
      refine wh_iast (pc := 64) d_Ln_load_64 (la_seats hb) (by first | exact in_nI (by omega) (by omega) | (rw [show (11 : Int32) + nI i = nI (11 + i) from nI_add 11 i]; exact in_nI (by omega) (by omega)) | (rw [show (5 : Int32) + nI i = nI (5 + i) from nI_add 5 i]; exact in_nI (by omega) (by omega)) | exact vp_in_iff.mpr (by decide)) ?_
      refine wh_iinc (pc := 65) (ls2 := [_, _, _]) d_Ln_load_65 rfl (nI_inc _) (by decide) rfl rfl ?_
      refine wh_goto (pc := 68) (tgt := 48) d_Ln_load_68 (by decide) ?_
      simp only [cl_nI (show i < 2 ^ 31 by omega), show (11 : Int32) + nI i = nI (11 + i) from nI_add 11 i, show (5 : Int32) + nI i = nI (5 + i) from nI_add 5 i, cl_nI (show 11 + i < 2 ^ 31 by omega), cl_nI (show 5 + i < 2 ^ 31 by omega)]
      refine wh_eq (ih trivial) rfl rfl ?_
      simp (disch := omega) only [gI_sN, ld_row]
      exact ld_m h b r i
  · intro i hi _ ih
    refine wh_iload_n (pc := 14) d_Ln_load_14 rfl rfl ?_
    refine wh_iconst (pc := 15) (v := 5) d_Ln_load_15 (by decide) ?_
    refine wh_icmp_ge (pc := 16) (tgt := 46) d_Ln_load_16 (by decide) (fun c_16 => absurd c_16 (nI_ge hi (by decide))) (fun c_16 => ?_)
    refine wh_aload_n (pc := 19) d_Ln_load_19 rfl rfl ?_
    refine gf_Ln_15 (pc := 20) hb rfl d_Ln_load_20 ?_
    refine wh_iload_n (pc := 23) d_Ln_load_23 rfl rfl ?_
    refine wh_aload_n (pc := 24) d_Ln_load_24 rfl rfl ?_
    refine wh_iload_n (pc := 25) d_Ln_load_25 rfl rfl ?_
    refine wh_iald (pc := 26) d_Ln_load_26 hr (by first | exact in_nI (by omega) (by omega) | (rw [show (11 : Int32) + nI i = nI (11 + i) from nI_add 11 i]; exact in_nI (by omega) (by omega)) | (rw [show (5 : Int32) + nI i = nI (5 + i) from nI_add 5 i]; exact in_nI (by omega) (by omega)) | exact vp_in_iff.mpr (by decide)) ?_
    refine wh_iast (pc := 27) d_Ln_load_27 (la_burns hb) (by first | exact in_nI (by omega) (by omega) | (rw [show (11 : Int32) + nI i = nI (11 + i) from nI_add 11 i]; exact in_nI (by omega) (by omega)) | (rw [show (5 : Int32) + nI i = nI (5 + i) from nI_add 5 i]; exact in_nI (by omega) (by omega)) | exact vp_in_iff.mpr (by decide)) ?_
    refine wh_aload_n (pc := 28) d_Ln_load_28 rfl rfl ?_
    refine gf_Ln_21 (pc := 29) hb rfl d_Ln_load_29 ?_
    refine wh_iload_n (pc := 32) d_Ln_load_32 rfl rfl ?_
    refine wh_aload_n (pc := 33) d_Ln_load_33 rfl rfl ?_
    refine wh_bipush (pc := 34) (v := 11) d_Ln_load_34 (by decide) ?_
    refine wh_iload_n (pc := 36) d_Ln_load_36 rfl rfl ?_
    refine wh_iadd (pc := 37) d_Ln_load_37 ?_
    refine wh_iald (pc := 38) d_Ln_load_38 hr (by first | exact in_nI (by omega) (by omega) | (rw [show (11 : Int32) + nI i = nI (11 + i) from nI_add 11 i]; exact in_nI (by omega) (by omega)) | (rw [show (5 : Int32) + nI i = nI (5 + i) from nI_add 5 i]; exact in_nI (by omega) (by omega)) | exact vp_in_iff.mpr (by decide)) ?_
    refine wh_iast (pc := 39) d_Ln_load_39 (la_paid hb) (by first | exact in_nI (by omega) (by omega) | (rw [show (11 : Int32) + nI i = nI (11 + i) from nI_add 11 i]; exact in_nI (by omega) (by omega)) | (rw [show (5 : Int32) + nI i = nI (5 + i) from nI_add 5 i]; exact in_nI (by omega) (by omega)) | exact vp_in_iff.mpr (by decide)) ?_
    refine wh_iinc (pc := 40) (ls2 := [_, _, _]) d_Ln_load_40 rfl (nI_inc _) (by decide) rfl rfl ?_
    refine wh_goto (pc := 43) (tgt := 14) d_Ln_load_43 (by decide) ?_
    simp only [cl_nI (show i < 2 ^ 31 by omega), show (11 : Int32) + nI i = nI (11 + i) from nI_add 11 i, show (5 : Int32) + nI i = nI (5 + i) from nI_add 5 i, cl_nI (show 11 + i < 2 ^ 31 by omega), cl_nI (show 5 + i < 2 ^ 31 by omega)]
    refine wh_eq (ih trivial) rfl rfl ?_
    simp (disch := omega) only [gI_sN, ld_row]
    exact ld_n h b r i
  · exact (ld_0 h b r).symm

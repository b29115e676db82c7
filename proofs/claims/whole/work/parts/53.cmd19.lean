theorem c_fac {l : Launch} {D : va_G} {base : Nat} {n : Nat} (hn : n < 2 ^ 20) {h : Hp} : SD l D base M_Lm_factorial [.int (nI n)] h (some (.int (facN n))) h := by
  refine SP.of [some (.int (nI n)), none, none] (by decide) rfl (Nat.le_of_ble_eq_true rfl) ?_
  by_cases h2 : n < 2
  · refine wh_iconst (pc := 0) (v := 1) d_Lm_factorial_0 (by decide) ?_
    refine wh_istore_n (pc := 1) (ls2 := [_, _, _]) d_Lm_factorial_1 rfl (by decide) rfl rfl ?_
    refine wh_iconst (pc := 2) (v := 2) d_Lm_factorial_2 (by decide) ?_
    refine wh_istore_n (pc := 3) (ls2 := [_, _, _]) d_Lm_factorial_3 rfl (by decide) rfl rfl ?_
    refine wh_iload_n (pc := 4) d_Lm_factorial_4 rfl rfl ?_
    refine wh_iload_n (pc := 5) d_Lm_factorial_5 rfl rfl ?_
    refine wh_icmp_gt (pc := 6) (tgt := 19) d_Lm_factorial_6 (by decide) (fun c_6 => ?_) (fun c_6 => absurd (by rw [i_lt, nI_toInt (by omega)]; show _ < (2 : Int); omega) c_6)
    refine wh_iload_n (pc := 19) d_Lm_factorial_19 rfl rfl ?_
    refine wh_iret (pc := 20) d_Lm_factorial_20 rfl ?_
    refine ⟨rfl, ?_⟩
    rcases (show n = 0 ∨ n = 1 by omega) with rfl | rfl <;> rfl
  · refine wh_iconst (pc := 0) (v := 1) d_Lm_factorial_0 (by decide) ?_
    refine wh_istore_n (pc := 1) (ls2 := [_, _, _]) d_Lm_factorial_1 rfl (by decide) rfl rfl ?_
    refine wh_iconst (pc := 2) (v := 2) d_Lm_factorial_2 (by decide) ?_
    refine wh_istore_n (pc := 3) (ls2 := [_, _, _]) d_Lm_factorial_3 rfl (by decide) rfl rfl ?_
    refine wh_eq (wh_loop (n - 1) (fun i => [some (.int (nI n)), some (.int (facN (i + 1))), some (.int (nI (i + 2)))]) (fun _ => h) (fun _ => True) ?_ ?_ 0 (Nat.zero_le _) trivial) ?_ rfl ?_
    · intro _
      refine wh_iload_n (pc := 4) d_Lm_factorial_4 rfl rfl ?_
      refine wh_iload_n (pc := 5) d_Lm_factorial_5 rfl rfl ?_
      refine wh_icmp_gt (pc := 6) (tgt := 19) d_Lm_factorial_6 (by decide) (fun c_6 => ?_) (fun c_6 => absurd (by rw [show n - 1 + 2 = n + 1 by omega]; exact nI_lt (by omega) (by omega)) c_6)
      refine wh_iload_n (pc := 19) d_Lm_factorial_19 rfl rfl ?_
      refine wh_iret (pc := 20) d_Lm_factorial_20 rfl ?_
      refine ⟨rfl, ?_⟩
      rw [show n - 1 + 1 = n by omega]
    · intro i hi _ ih
      refine wh_iload_n (pc := 4) d_Lm_factorial_4 rfl rfl ?_
      refine wh_iload_n (pc := 5) d_Lm_factorial_5 rfl rfl ?_
      refine wh_icmp_gt (pc := 6) (tgt := 19) d_Lm_factorial_6 (by decide) (fun c_6 => absurd c_6 (nI_nlt (by omega) (by omega))) (fun c_6 => ?_)
      refine wh_iload_n (pc := 9) d_Lm_factorial_9 rfl rfl ?_
      refine wh_iload_n (pc := 10) d_Lm_factorial_10 rfl rfl ?_
      refine wh_imul (pc := 11) d_Lm_factorial_11 ?_
      refine wh_istore_n (pc := 12) (ls2 := [_, _, _]) d_Lm_factorial_12 rfl (by decide) rfl rfl ?_
      refine wh_iinc (pc := 13) (ls2 := [_, _, _]) d_Lm_factorial_13 rfl (nI_inc _) (by decide) rfl rfl ?_
      refine wh_goto (pc := 16) (tgt := 4) d_Lm_factorial_16 (by decide) ?_
      exact ih trivial
    · rfl
    · rfl
theorem c_orders {l : Launch} {D : va_G} {base : Nat} {h : Hp} {n k : Nat} (hn : gI h 2 6 = nI n) (h5 : n ≤ 5) (hk : k < n) : SD l D base M_Lm_ordersWith [.ref 0, .int (nI k)] h (some (.int (facN k * facN (n - 1 - k)))) h := by
  refine SP.of [some (.ref 0), some (.int (nI k))] (by decide) rfl (Nat.le_of_ble_eq_true rfl) ?_
  refine wh_iload_n (pc := 0) d_Lm_ordersWith_0 rfl rfl ?_
  refine cs_Lm_204_d (pc := 1) rfl d_Lm_ordersWith_1 ⟨⟨by decide, by decide⟩, rfl, rfl⟩ (c_fac (by omega)) (Nat.le_of_ble_eq_true rfl) ?_
  refine wh_aload_n (pc := 4) d_Lm_ordersWith_4 rfl rfl ?_
  refine gf_Lm_20 (pc := 5) rfl d_Lm_ordersWith_5 ?_
  refine gf_Lm_76 (pc := 8) (Or.inl rfl) rfl d_Lm_ordersWith_8 ?_
  refine wh_iconst (pc := 11) (v := 1) d_Lm_ordersWith_11 (by decide) ?_
  refine wh_isub (pc := 12) d_Lm_ordersWith_12 ?_
  refine wh_iload_n (pc := 13) d_Lm_ordersWith_13 rfl rfl ?_
  refine wh_isub (pc := 14) d_Lm_ordersWith_14 ?_
  rw [hn, down_n hk (by omega)]
  refine cs_Lm_204_d (pc := 15) rfl d_Lm_ordersWith_15 ⟨⟨by decide, by decide⟩, rfl, rfl⟩ (c_fac (by omega)) (Nat.le_of_ble_eq_true rfl) ?_
  refine wh_imul (pc := 18) d_Lm_ordersWith_18 ?_
  refine wh_iret (pc := 19) d_Lm_ordersWith_19 rfl ?_
  exact ⟨rfl, rfl⟩
theorem c_groups {l : Launch} {D : va_G} {base : Nat} {h : Hp} (hF : WFS (laneS h 2)) : SV l D base M_Lm_reckonGroups [.ref 0] h (fun g => FC h g ∧ ∀ d, d < 2 ^ nW (laneS h 2) → gI g 41 d = grV (laneS h 2) d) := by
  refine SP.of [some (.ref 0), none, none, none] (by decide) rfl (Nat.le_of_ble_eq_true rfl) ?_
  have hw5 := hF.1.1
  have hm6 := hF.2.1.1
  have h2n := two_le5 hw5
  have e26 : gI h 2 6 = nI (nW (laneS h 2)) := wf_w hF
  refine wh_iconst (pc := 0) (v := 1) d_Lm_reckonGroups_0 (by decide) ?_
  refine wh_aload_n (pc := 1) d_Lm_reckonGroups_1 rfl rfl ?_
  refine gf_Lm_20 (pc := 2) rfl d_Lm_reckonGroups_2 ?_
  refine gf_Lm_76 (pc := 5) (Or.inl rfl) rfl d_Lm_reckonGroups_5 ?_
  refine wh_ishl (pc := 8) d_Lm_reckonGroups_8 ?_
  rw [e26, shl_n _ (by omega)]
  refine wh_istore_n (pc := 9) (ls2 := [_, _, _, _]) d_Lm_reckonGroups_9 rfl (by decide) rfl rfl ?_
  refine wh_iconst (pc := 10) (v := 0) d_Lm_reckonGroups_10 (by decide) ?_
  refine wh_istore_n (pc := 11) (ls2 := [_, _, _, _]) d_Lm_reckonGroups_11 rfl (by decide) rfl rfl ?_
  refine wh_loopR (2 ^ nW (laneS h 2)) (fun i => [some (.ref 0), some (.int (nI (2 ^ nW (laneS h 2)))), some (.int (nI i)), none]) (fun i g => FC h g ∧ ∀ d, d < i → gI g 41 d = grV (laneS h 2) d) ?_ ?_ 0 h (Nat.zero_le _) ⟨FC.rf h, fun d hd => by omega⟩
  · intro g hI
    refine wh_iload_n (pc := 12) d_Lm_reckonGroups_12 rfl rfl ?_
    refine wh_iload_n (pc := 13) d_Lm_reckonGroups_13 rfl rfl ?_
    refine wh_icmp_ge (pc := 14) (tgt := 90) d_Lm_reckonGroups_14 (by decide) (fun c_14 => ?_) (fun c_14 => absurd (nI_le (Nat.le_refl _) (by omega)) c_14)
    refine wh_vret (pc := 90) d_Lm_reckonGroups_90 rfl ?_
    exact ⟨rfl, hI⟩
  · intro i g hi hI ih
    have hlg : laneS g 2 = (laneS h 2) := fc_lane hI.1
    have hlc : laneS (cpN g 10 2 5 6) 10 = (laneS h 2) := by rw [lane_cp (by rw [hlg]; exact hw5) (by rw [hlg]; exact hm6), hlg]
    have h26q : ∀ q, gI (fillA (cpN g 10 2 5 6) (10 + 2) (fun k => if hasB (nI i) k then gI (cpN g 10 2 5 6) (10 + 2) k else 0) q) 2 6 = nI (nW (laneS h 2)) := fun q => by rw [gI_fillN (by decide)]; exact ((hI.1.tr fc_cp).2 2 6 (by unfold scC; omega)).trans (wf_w hF)
    have hT : laneS (fillA (cpN g 10 2 5 6) (10 + 2) (fun k => if hasB (nI i) k then gI (cpN g 10 2 5 6) (10 + 2) k else 0) (nW (laneS h 2))) 10 = (grS (laneS h 2) (nI i)) := by
      rw [show nW (laneS h 2) = nW (laneS (cpN g 10 2 5 6) 10) by rw [hlc], lane_row, hlc]
      exact row_congr (fun k hk => by rw [show gI (cpN g 10 2 5 6) (10 + 2) k = (laneS h 2) 1 k by rw [← hlc]; exact la1 (by rw [hlc]; exact hk)])
    have hTF := gr_wf hF (nI i)
    have hG2 : FC h (fillA (fillA (cpN g 10 2 5 6) (10 + 2) (fun k => if hasB (nI i) k then gI (cpN g 10 2 5 6) (10 + 2) k else 0) (nW (laneS h 2))) (10 + 7) (owedF (grS (laneS h 2) (nI i))) (nW (grS (laneS h 2) (nI i)))) := ((hI.1.tr fc_cp).tr (fc_fill (by unfold scC; omega))).tr (fc_fill (by unfold scC; omega))
    have h41 : ∀ d, gI (fillA (fillA (cpN g 10 2 5 6) (10 + 2) (fun k => if hasB (nI i) k then gI (cpN g 10 2 5 6) (10 + 2) k else 0) (nW (laneS h 2))) (10 + 7) (owedF (grS (laneS h 2) (nI i))) (nW (grS (laneS h 2) (nI i)))) 41 d = gI g 41 d := fun d => by rw [gI_fillN (by decide), gI_fillN (by decide), gI_cp, if_neg (by omega), if_neg (by omega), if_neg (by omega)]
    refine wh_iload_n (pc := 12) d_Lm_reckonGroups_12 rfl rfl ?_
    refine wh_iload_n (pc := 13) d_Lm_reckonGroups_13 rfl rfl ?_
    refine wh_icmp_ge (pc := 14) (tgt := 90) d_Lm_reckonGroups_14 (by decide) (fun c_14 => absurd c_14 (nI_ge hi (by omega))) (fun c_14 => ?_)
    refine wh_iload_n (pc := 17) d_Lm_reckonGroups_17 rfl rfl ?_
    refine wh_bipush (pc := 18) (v := 32) d_Lm_reckonGroups_18 (by decide) ?_
    refine wh_icmp_ge (pc := 20) (tgt := 90) d_Lm_reckonGroups_20 (by decide) (fun c_20 => absurd c_20 (nI_ge (show i < 32 by omega) (by decide))) (fun c_20 => ?_)
    refine wh_aload_n (pc := 23) d_Lm_reckonGroups_23 rfl rfl ?_
    refine gf_Lm_24 (pc := 24) rfl d_Lm_reckonGroups_24 ?_
    refine wh_aload_n (pc := 27) d_Lm_reckonGroups_27 rfl rfl ?_
    refine gf_Lm_20 (pc := 28) rfl d_Lm_reckonGroups_28 ?_
    refine cv_Lm_72_d (pc := 31) (Or.inr rfl) rfl d_Lm_reckonGroups_31 ⟨⟨by decide, by decide⟩, rfl, rfl⟩ (s_copy (Or.inr rfl) (Or.inl rfl) (by decide)) (Nat.le_of_ble_eq_true rfl) ?_
    refine wh_iconst (pc := 34) (v := 0) d_Lm_reckonGroups_34 (by decide) ?_
    refine wh_istore_n (pc := 35) (ls2 := [_, _, _, _]) d_Lm_reckonGroups_35 rfl (by decide) rfl rfl ?_
    refine wh_eq (wh_loop (nW (laneS h 2)) (fun q => [some (.ref 0), some (.int (nI (2 ^ nW (laneS h 2)))), some (.int (nI i)), some (.int (nI q))]) (fun q => (fillA (cpN g 10 2 5 6) (10 + 2) (fun k => if hasB (nI i) k then gI (cpN g 10 2 5 6) (10 + 2) k else 0) q)) (fun _ => True) ?_ ?_ 0 (Nat.zero_le _) trivial) rfl rfl (fill_0 _ _ _).symm
    · intro _
      refine wh_iload_n (pc := 36) d_Lm_reckonGroups_36 rfl rfl ?_
      refine wh_aload_n (pc := 37) d_Lm_reckonGroups_37 rfl rfl ?_
      refine gf_Lm_20 (pc := 38) rfl d_Lm_reckonGroups_38 ?_
      refine gf_Lm_76 (pc := 41) (Or.inl rfl) rfl d_Lm_reckonGroups_41 ?_
      refine wh_icmp_ge (pc := 44) (tgt := 71) d_Lm_reckonGroups_44 (by decide) (fun c_44 => ?_) (fun c_44 => absurd (by rw [h26q]; exact nI_le (Nat.le_refl _) (by omega)) c_44)
      refine wh_aload_n (pc := 71) d_Lm_reckonGroups_71 rfl rfl ?_
      refine gf_Lm_61 (pc := 72) rfl d_Lm_reckonGroups_72 ?_
      refine wh_iload_n (pc := 75) d_Lm_reckonGroups_75 rfl rfl ?_
      refine wh_aload_n (pc := 76) d_Lm_reckonGroups_76 rfl rfl ?_
      refine gf_Lm_24 (pc := 77) rfl d_Lm_reckonGroups_77 ?_
      refine cv_Lm_95_d (pc := 80) (Or.inr rfl) rfl d_Lm_reckonGroups_80 ⟨⟨by decide, by decide⟩, rfl, rfl⟩ (s_all (Or.inr rfl) hT hTF) (Nat.le_of_ble_eq_true rfl) ?_
      refine wh_iast (pc := 83) d_Lm_reckonGroups_83 rfl (in_nI (by omega) (by omega)) ?_
      refine wh_iinc (pc := 84) (ls2 := [_, _, _, _]) d_Lm_reckonGroups_84 rfl (nI_inc _) (by decide) rfl rfl ?_
      refine wh_goto (pc := 87) (tgt := 12) d_Lm_reckonGroups_87 (by decide) ?_
      refine wh_drop (i := 3) (ls2 := [_, _, _, _]) rfl ?_
      rw [cl_nI (show i < 2 ^ 31 by omega)]
      refine ih _ ⟨hG2.tr (fc_sI (by unfold scC; omega)), fun d hd => ?_⟩
      by_cases e : d = i
      · rw [e, gI_sS]; rfl
      · rw [gI_sM (by omega), h41]; exact hI.2 d (by omega)
    · intro q hq _ ih2
      have hcq := cl_nI (show q < 2 ^ 31 by omega)
      have hbq := bit_01 i (by omega) q (by omega)
      refine wh_iload_n (pc := 36) d_Lm_reckonGroups_36 rfl rfl ?_
      refine wh_aload_n (pc := 37) d_Lm_reckonGroups_37 rfl rfl ?_
      refine gf_Lm_20 (pc := 38) rfl d_Lm_reckonGroups_38 ?_
      refine gf_Lm_76 (pc := 41) (Or.inl rfl) rfl d_Lm_reckonGroups_41 ?_
      refine wh_icmp_ge (pc := 44) (tgt := 71) d_Lm_reckonGroups_44 (by decide) (fun c_44 => absurd c_44 (by rw [h26q]; exact nI_ge hq (by omega))) (fun c_44 => ?_)
      refine wh_iload_n (pc := 47) d_Lm_reckonGroups_47 rfl rfl ?_
      refine wh_iload_n (pc := 48) d_Lm_reckonGroups_48 rfl rfl ?_
      refine wh_ishr (pc := 49) d_Lm_reckonGroups_49 ?_
      refine wh_iconst (pc := 50) (v := 1) d_Lm_reckonGroups_50 (by decide) ?_
      refine wh_iand (pc := 51) d_Lm_reckonGroups_51 ?_
      refine wh_if_ne (pc := 52) (tgt := 65) d_Lm_reckonGroups_52 (by decide) (fun c_52 => ?_) (fun c_52 => ?_)
      · refine wh_iinc (pc := 65) (ls2 := [_, _, _, _]) d_Lm_reckonGroups_65 rfl (nI_inc _) (by decide) rfl rfl ?_
        refine wh_goto (pc := 68) (tgt := 36) d_Lm_reckonGroups_68 (by decide) ?_
        rw [hbq] at c_52
        first
          | (refine wh_eq (ih2 trivial) rfl rfl (fill_skip (if_pos (by simpa using c_52))).symm; done)
          | (rw [hcq]; refine wh_eq (ih2 trivial) rfl rfl (fill_s _ _ _ _ ?_); rw [if_neg (by rw [c_52]; decide)])
      · refine wh_aload_n (pc := 55) d_Lm_reckonGroups_55 rfl rfl ?_
        refine gf_Lm_24 (pc := 56) rfl d_Lm_reckonGroups_56 ?_
        refine gf_Lm_108 (pc := 59) (Or.inr rfl) rfl d_Lm_reckonGroups_59 ?_
        refine wh_iload_n (pc := 62) d_Lm_reckonGroups_62 rfl rfl ?_
        refine wh_iconst (pc := 63) (v := 0) d_Lm_reckonGroups_63 (by decide) ?_
        refine wh_iast (pc := 64) d_Lm_reckonGroups_64 (la_burns (Or.inr rfl)) (in_nI (by omega) (by omega)) ?_
        refine wh_iinc (pc := 65) (ls2 := [_, _, _, _]) d_Lm_reckonGroups_65 rfl (nI_inc _) (by decide) rfl rfl ?_
        refine wh_goto (pc := 68) (tgt := 36) d_Lm_reckonGroups_68 (by decide) ?_
        rw [hbq] at c_52
        first
          | (refine wh_eq (ih2 trivial) rfl rfl (fill_skip (if_pos (by simpa using c_52))).symm; done)
          | (rw [hcq]; refine wh_eq (ih2 trivial) rfl rfl (fill_s _ _ _ _ ?_); rw [if_neg (by rw [c_52]; decide)])
theorem c_share {l : Launch} {D : va_G} {base : Nat} {h : Hp} (hr : Rel h) (x b : Int32) : SI l D base M_Lm_share [.ref 0, .int x, .int b] h (fun g v => FC h g ∧ v = shaF (laneS h 2) x b) := by
  refine SP.of [some (.ref 0), some (.int x), some (.int b), none, none, none, none, none] (by decide) rfl (Nat.le_of_ble_eq_true rfl) ?_
  obtain ⟨hSt, hF⟩ := hr.street
  have hw5 := hF.1.1
  have hm6 := hF.2.1.1
  rcases bI_two (w := x) (n := nW (laneS h 2)) (by omega) with hz | ⟨w, hk, rfl⟩
  · refine wh_aload_n (pc := 0) d_Lm_share_0 rfl rfl ?_
    refine gf_Lm_20 (pc := 1) rfl d_Lm_share_1 ?_
    refine wh_iload_n (pc := 4) d_Lm_share_4 rfl rfl ?_
    refine cv_Lm_101_d (pc := 5) (Or.inl rfl) rfl d_Lm_share_5 ⟨⟨by decide, by decide⟩, rfl, rfl⟩ (s_hasWindow (Or.inl rfl) (wf_w hF) hw5) (Nat.le_of_ble_eq_true rfl) ?_
    refine wh_if_ne (pc := 8) (tgt := 13) d_Lm_share_8 (by decide) (fun c_8 => absurd hz c_8) (fun c_8 => ?_)
    refine wh_iconst (pc := 11) (v := (-1)) d_Lm_share_11 (by decide) ?_
    refine wh_iret (pc := 12) d_Lm_share_12 rfl ?_
    exact ⟨_, rfl, FC.rf h, by unfold shaF; rw [if_pos hz]⟩
  have hz := bI_k hk (show nW (laneS h 2) < 2 ^ 31 by omega)
  have hcw := cl_nI (show w < 2 ^ 31 by omega)
  have h2n := two_le5 hw5
  have h2w : 2 ^ w ≤ 32 := two_le5 (by omega)
  obtain ⟨ha1, ha2⟩ := sh_abs hF hk
  obtain ⟨f1, f2, f3⟩ := fac_1 (nW (laneS h 2)) (by omega)
  have hse := sh_eq (shT (laneS h 2) w) (show nW (laneS h 2) < 6 by omega) hk
  refine wh_aload_n (pc := 0) d_Lm_share_0 rfl rfl ?_
  refine gf_Lm_20 (pc := 1) rfl d_Lm_share_1 ?_
  refine wh_iload_n (pc := 4) d_Lm_share_4 rfl rfl ?_
  refine cv_Lm_101_d (pc := 5) (Or.inl rfl) rfl d_Lm_share_5 ⟨⟨by decide, by decide⟩, rfl, rfl⟩ (s_hasWindow (Or.inl rfl) (wf_w hF) hw5) (Nat.le_of_ble_eq_true rfl) ?_
  refine wh_if_ne (pc := 8) (tgt := 13) d_Lm_share_8 (by decide) (fun c_8 => ?_) (fun c_8 => absurd c_8 hz)
  refine wh_aload_n (pc := 13) d_Lm_share_13 rfl rfl ?_
  refine cv_Lm_193_v (pc := 14) rfl d_Lm_share_14 ⟨⟨by decide, by decide⟩, rfl, rfl⟩ (c_groups hF) (Nat.le_of_ble_eq_true rfl) (fun h_14 e_14 => ?_)
  have h26 : gI h_14 2 6 = nI (nW (laneS h 2)) := (e_14.1.2 2 6 (by unfold scC; omega)).trans (wf_w hF)
  refine wh_iconst (pc := 17) (v := 1) d_Lm_share_17 (by decide) ?_
  refine wh_aload_n (pc := 18) d_Lm_share_18 rfl rfl ?_
  refine gf_Lm_20 (pc := 19) rfl d_Lm_share_19 ?_
  refine gf_Lm_76 (pc := 22) (Or.inl rfl) rfl d_Lm_share_22 ?_
  refine wh_ishl (pc := 25) d_Lm_share_25 ?_
  rw [h26, shl_n _ (by omega)]
  refine wh_istore_n (pc := 26) (ls2 := [_, _, _, _, _, _, _, _]) d_Lm_share_26 rfl (by decide) rfl rfl ?_
  refine wh_iconst (pc := 27) (v := 1) d_Lm_share_27 (by decide) ?_
  refine wh_iload_n (pc := 28) d_Lm_share_28 rfl rfl ?_
  refine wh_ishl (pc := 29) d_Lm_share_29 ?_
  rw [shl_n _ (by omega)]
  refine wh_istore (pc := 30) (ls2 := [_, _, _, _, _, _, _, _]) d_Lm_share_30 (by decide) rfl rfl ?_
  refine wh_iconst (pc := 32) (v := 0) d_Lm_share_32 (by decide) ?_
  refine wh_istore (pc := 33) (ls2 := [_, _, _, _, _, _, _, _]) d_Lm_share_33 (by decide) rfl rfl ?_
  refine wh_iconst (pc := 35) (v := 0) d_Lm_share_35 (by decide) ?_
  refine wh_istore (pc := 36) (ls2 := [_, _, _, _, _, _, _, _]) d_Lm_share_36 (by decide) rfl rfl ?_
  refine wh_loop (2 ^ nW (laneS h 2)) (fun i => [some (.ref 0), some (.int (nI w)), some (.int b), some (.int (nI (2 ^ nW (laneS h 2)))), some (.int (nI (2 ^ w))), some (.int (shC (shT (laneS h 2) w) w i)), some (.int (nI i)), none]) (fun _ => h_14) (fun _ => True) ?_ ?_ 0 (Nat.zero_le _) trivial
  · intro _
    refine wh_iload (pc := 38) d_Lm_share_38 rfl ?_
    refine wh_iload_n (pc := 40) d_Lm_share_40 rfl rfl ?_
    refine wh_icmp_ge (pc := 41) (tgt := 102) d_Lm_share_41 (by decide) (fun c_41 => ?_) (fun c_41 => absurd (nI_le (Nat.le_refl _) (by omega)) c_41)
    refine wh_iload (pc := 102) d_Lm_share_102 rfl ?_
    refine wh_aload_n (pc := 104) d_Lm_share_104 rfl rfl ?_
    refine gf_Lm_20 (pc := 105) rfl d_Lm_share_105 ?_
    refine gf_Lm_76 (pc := 108) (Or.inl rfl) rfl d_Lm_share_108 ?_
    rw [h26]
    refine cs_Lm_204_d (pc := 111) rfl d_Lm_share_111 ⟨⟨by decide, by decide⟩, rfl, rfl⟩ (c_fac (by omega)) (Nat.le_of_ble_eq_true rfl) ?_
    rw [f1, hse]
    refine wh_iload_n (pc := 114) d_Lm_share_114 rfl rfl ?_
    refine cs_Lm_207_d (pc := 115) rfl d_Lm_share_115 ⟨⟨by decide, by decide⟩, rfl, rfl⟩ (c_told ha1 ha2 f2 (by omega)) (Nat.le_of_ble_eq_true rfl) ?_
    refine wh_iret (pc := 118) d_Lm_share_118 rfl ?_
    exact ⟨_, rfl, e_14.1, by unfold shaF; rw [if_neg hz, hcw]⟩
  · intro i hi _ ih
    have hab := and_bit i (by omega) w (by omega)
    obtain ⟨hb1, hb2⟩ := bit_le (nW (laneS h 2)) (by omega) i hi w hk
    have es : shC (shT (laneS h 2) w) w (i + 1) = if hasB (nI i) w then shC (shT (laneS h 2) w) w i + (shT (laneS h 2) w) (i - 2 ^ w) else shC (shT (laneS h 2) w) w i := rfl
    by_cases c : hasB (nI i) w
    · obtain ⟨hle, hbn⟩ := hb1 c
      have hsl : i - 2 ^ w ≤ i := Nat.sub_le _ _
      have hbe := (bit_in (nW (laneS h 2)) (by omega) (i - 2 ^ w) (by omega)).1
      have hbe : bitC (nI (i - 2 ^ w)) = nI (bn (i - 2 ^ w)) := hbe
      have v1 : gI h_14 41 (nI i).toNatClampNeg = grV (laneS h 2) i := by rw [cl_nI (by omega)]; exact e_14.2 i hi
      have v2 : gI h_14 41 (nI (i - 2 ^ w)).toNatClampNeg = grV (laneS h 2) (i - 2 ^ w) := by rw [cl_nI (by omega)]; exact e_14.2 _ (by omega)
      refine wh_iload (pc := 38) d_Lm_share_38 rfl ?_
      refine wh_iload_n (pc := 40) d_Lm_share_40 rfl rfl ?_
      refine wh_icmp_ge (pc := 41) (tgt := 102) d_Lm_share_41 (by decide) (fun c_41 => absurd c_41 (nI_ge hi (by omega))) (fun c_41 => ?_)
      refine wh_iload (pc := 44) d_Lm_share_44 rfl ?_
      refine wh_bipush (pc := 46) (v := 32) d_Lm_share_46 (by decide) ?_
      refine wh_icmp_ge (pc := 48) (tgt := 102) d_Lm_share_48 (by decide) (fun c_48 => absurd c_48 (nI_ge (show i < 32 by omega) (by decide))) (fun c_48 => ?_)
      refine wh_iload (pc := 51) d_Lm_share_51 rfl ?_
      refine wh_iload (pc := 53) d_Lm_share_53 rfl ?_
      refine wh_iand (pc := 55) d_Lm_share_55 ?_
      refine wh_if_eq (pc := 56) (tgt := 96) d_Lm_share_56 (by decide) (fun c_56 => absurd c_56 (fun z => by rw [hab, c] at z; exact absurd z (by decide))) (fun c_56 => ?_)
      refine wh_iload (pc := 59) d_Lm_share_59 rfl ?_
      refine wh_iload (pc := 61) d_Lm_share_61 rfl ?_
      refine wh_isub (pc := 63) d_Lm_share_63 ?_
      rw [pk_sub hle]
      refine wh_istore (pc := 64) (ls2 := [_, _, _, _, _, _, _, _]) d_Lm_share_64 (by decide) rfl rfl ?_
      refine wh_iload (pc := 66) d_Lm_share_66 rfl ?_
      refine wh_aload_n (pc := 68) d_Lm_share_68 rfl rfl ?_
      refine wh_iload (pc := 69) d_Lm_share_69 rfl ?_
      refine cs_Lm_196_d (pc := 71) rfl d_Lm_share_71 ⟨⟨by decide, by decide⟩, rfl, rfl⟩ ((show SD l D base M_Ji_bitCount [.int (nI (i - 2 ^ w))] _ (some (.int (nI (bn (i - 2 ^ w))))) _ by rw [← hbe]; exact s_bitC)) (Nat.le_of_ble_eq_true rfl) ?_
      refine cv_Lm_201_d (pc := 74) rfl d_Lm_share_74 ⟨⟨by decide, by decide⟩, rfl, rfl⟩ (c_orders h26 hw5 hbn) (Nat.le_of_ble_eq_true rfl) ?_
      refine wh_aload_n (pc := 77) d_Lm_share_77 rfl rfl ?_
      refine gf_Lm_61 (pc := 78) rfl d_Lm_share_78 ?_
      refine wh_iload (pc := 81) d_Lm_share_81 rfl ?_
      refine wh_iald (pc := 83) d_Lm_share_83 rfl (in_nI (by omega) (by omega)) ?_
      refine wh_aload_n (pc := 84) d_Lm_share_84 rfl rfl ?_
      refine gf_Lm_61 (pc := 85) rfl d_Lm_share_85 ?_
      refine wh_iload (pc := 88) d_Lm_share_88 rfl ?_
      refine wh_iald (pc := 90) d_Lm_share_90 rfl (in_nI (by omega) (by omega)) ?_
      rw [v1, v2]
      refine wh_isub (pc := 91) d_Lm_share_91 ?_
      refine wh_imul (pc := 92) d_Lm_share_92 ?_
      refine wh_iadd (pc := 93) d_Lm_share_93 ?_
      refine wh_istore (pc := 94) (ls2 := [_, _, _, _, _, _, _, _]) d_Lm_share_94 (by decide) rfl rfl ?_
      refine wh_iinc (pc := 96) (ls2 := [_, _, _, _, _, _, _, _]) d_Lm_share_96 rfl (nI_inc _) (by decide) rfl rfl ?_
      refine wh_goto (pc := 99) (tgt := 38) d_Lm_share_99 (by decide) ?_
      refine wh_drop (i := 7) (ls2 := [_, _, _, _, _, _, _, _]) rfl ?_
      refine wh_eq (ih trivial) ?_ rfl rfl
      rw [es, if_pos c]
      unfold shT
      rw [Nat.sub_add_cancel hle]
    · refine wh_iload (pc := 38) d_Lm_share_38 rfl ?_
      refine wh_iload_n (pc := 40) d_Lm_share_40 rfl rfl ?_
      refine wh_icmp_ge (pc := 41) (tgt := 102) d_Lm_share_41 (by decide) (fun c_41 => absurd c_41 (nI_ge hi (by omega))) (fun c_41 => ?_)
      refine wh_iload (pc := 44) d_Lm_share_44 rfl ?_
      refine wh_bipush (pc := 46) (v := 32) d_Lm_share_46 (by decide) ?_
      refine wh_icmp_ge (pc := 48) (tgt := 102) d_Lm_share_48 (by decide) (fun c_48 => absurd c_48 (nI_ge (show i < 32 by omega) (by decide))) (fun c_48 => ?_)
      refine wh_iload (pc := 51) d_Lm_share_51 rfl ?_
      refine wh_iload (pc := 53) d_Lm_share_53 rfl ?_
      refine wh_iand (pc := 55) d_Lm_share_55 ?_
      refine wh_if_eq (pc := 56) (tgt := 96) d_Lm_share_56 (by decide) (fun c_56 => ?_) (fun c_56 => absurd (hab.mpr (by simpa using c)) c_56)
      refine wh_iinc (pc := 96) (ls2 := [_, _, _, _, _, _, _, _]) d_Lm_share_96 rfl (nI_inc _) (by decide) rfl rfl ?_
      refine wh_goto (pc := 99) (tgt := 38) d_Lm_share_99 (by decide) ?_
      refine wh_eq (ih trivial) ?_ rfl rfl
      rw [es, if_neg c]
theorem r_share {l : Launch} {D : va_G} {base : Nat} {h : Hp} (hr : Rel h) (x b : Int32) : SI l D base M_Md_share [.ref 42, .int x, .int b] h (fun g v => FM h g ∧ v = shaF (laneS h 2) x b) := by
  refine SP.of [some (.ref 42), some (.int x), some (.int b), none, none, none] (by decide) rfl (Nat.le_of_ble_eq_true rfl) ?_
  obtain ⟨hSt, hF⟩ := hr.street
  have hw5 := hF.1.1
  have hm6 := hF.2.1.1
  have hF8 : WFS (pageS h 48) := by rw [← hSt]; exact hF
  have hP0 : pageS (sI h 42 0 0) 48 = pageS h 48 := fm_page fm_thr
  have hw := hr.w
  rw [hSt] at hw5 hm6 ⊢
  rcases bI_two (w := x) (n := nW (pageS h 48)) (by omega) with hz | ⟨w, hk, rfl⟩
  · refine wh_aload_n (pc := 0) d_Md_share_0 rfl rfl ?_
    refine wh_iconst (pc := 1) (v := 0) d_Md_share_1 (by decide) ?_
    refine pf_Md_62 (pc := 2) rfl d_Md_share_2 ?_
    refine wh_aload_n (pc := 5) d_Md_share_5 rfl rfl ?_
    refine wh_iload_n (pc := 6) d_Md_share_6 rfl rfl ?_
    refine cv_Md_157_d (pc := 7) rfl d_Md_share_7 ⟨⟨by decide, by decide⟩, rfl, rfl⟩ (m_noW (n := nW (pageS h 48)) (by rw [gI_sI, if_neg (by decide)]; exact pf_w hF8) (by omega)) (Nat.le_of_ble_eq_true rfl) ?_
    refine wh_if_eq (pc := 10) (tgt := 15) d_Md_share_10 (by decide) (fun c_10 => absurd c_10 (bN_n hz)) (fun c_10 => ?_)
    refine wh_iconst (pc := 13) (v := (-1)) d_Md_share_13 (by decide) ?_
    refine wh_iret (pc := 14) d_Md_share_14 rfl ?_
    exact ⟨_, rfl, fm_thr, by unfold shaF; rw [if_pos hz]⟩
  have hz := bI_k hk (show nW (pageS h 48) < 2 ^ 31 by omega)
  have hcw := cl_nI (show w < 2 ^ 31 by omega)
  have h2n := two_le5 hw5
  have h2w : 2 ^ w ≤ 32 := two_le5 (by omega)
  obtain ⟨ha1, ha2⟩ := sh_abs hF8 hk
  obtain ⟨f1, f2, f3⟩ := fac_1 (nW (pageS h 48)) (by omega)
  refine wh_aload_n (pc := 0) d_Md_share_0 rfl rfl ?_
  refine wh_iconst (pc := 1) (v := 0) d_Md_share_1 (by decide) ?_
  refine pf_Md_62 (pc := 2) rfl d_Md_share_2 ?_
  refine wh_aload_n (pc := 5) d_Md_share_5 rfl rfl ?_
  refine wh_iload_n (pc := 6) d_Md_share_6 rfl rfl ?_
  refine cv_Md_157_d (pc := 7) rfl d_Md_share_7 ⟨⟨by decide, by decide⟩, rfl, rfl⟩ (m_noW (n := nW (pageS h 48)) (by rw [gI_sI, if_neg (by decide)]; exact pf_w hF8) (by omega)) (Nat.le_of_ble_eq_true rfl) ?_
  refine wh_if_eq (pc := 10) (tgt := 15) d_Md_share_10 (by decide) (fun c_10 => ?_) (fun c_10 => absurd (bN_k hk (by omega)) c_10)
  refine wh_iconst (pc := 15) (v := 0) d_Md_share_15 (by decide) ?_
  refine wh_istore_n (pc := 16) (ls2 := [_, _, _, _, _, _]) d_Md_share_16 rfl (by decide) rfl rfl ?_
  refine wh_loopR (2 ^ nW (pageS h 48)) (fun i => [some (.ref 42), some (.int (nI w)), some (.int b), some (.int (nI i)), none, none]) (fun i g => FM h g ∧ ∀ d, d < i → gI g 59 d = grV (pageS h 48) d) ?_ ?_ 0 _ (Nat.zero_le _) ⟨fm_thr, fun d hd => by omega⟩
  · intro g hI
    have h4 : gI g 42 4 = nI (nW (pageS h 48)) := (hI.1.2 42 4 (by unfold scM; omega)).trans (pf_w hF8)
    refine wh_iload_n (pc := 17) d_Md_share_17 rfl rfl ?_
    refine wh_iconst (pc := 18) (v := 1) d_Md_share_18 (by decide) ?_
    refine wh_aload_n (pc := 19) d_Md_share_19 rfl rfl ?_
    refine gf_Md_66 (pc := 20) rfl d_Md_share_20 ?_
    refine wh_ishl (pc := 23) d_Md_share_23 ?_
    refine wh_icmp_ge (pc := 24) (tgt := 100) d_Md_share_24 (by decide) (fun c_24 => ?_) (fun c_24 => absurd (by rw [h4, shl_n _ (by omega)]; exact nI_le (Nat.le_refl _) (by omega)) c_24)
    refine wh_iconst (pc := 100) (v := 0) d_Md_share_100 (by decide) ?_
    refine wh_istore_n (pc := 101) (ls2 := [_, _, _, _, _, _]) d_Md_share_101 rfl (by decide) rfl rfl ?_
    refine wh_iconst (pc := 102) (v := 0) d_Md_share_102 (by decide) ?_
    refine wh_istore (pc := 103) (ls2 := [_, _, _, _, _, _]) d_Md_share_103 (by decide) rfl rfl ?_
    refine wh_loop (2 ^ nW (pageS h 48)) (fun i => [some (.ref 42), some (.int (nI w)), some (.int b), some (.int (shM (shT (pageS h 48) w) w i)), some (.int (nI i)), none]) (fun _ => g) (fun _ => True) ?_ ?_ 0 (Nat.zero_le _) trivial
    · intro _
      refine wh_iload (pc := 105) d_Md_share_105 rfl ?_
      refine wh_iconst (pc := 107) (v := 1) d_Md_share_107 (by decide) ?_
      refine wh_aload_n (pc := 108) d_Md_share_108 rfl rfl ?_
      refine gf_Md_66 (pc := 109) rfl d_Md_share_109 ?_
      refine wh_ishl (pc := 112) d_Md_share_112 ?_
      refine wh_icmp_ge (pc := 113) (tgt := 179) d_Md_share_113 (by decide) (fun c_113 => ?_) (fun c_113 => absurd (by rw [h4, shl_n _ (by omega)]; exact nI_le (Nat.le_refl _) (by omega)) c_113)
      refine wh_iload_n (pc := 179) d_Md_share_179 rfl rfl ?_
      refine wh_aload_n (pc := 180) d_Md_share_180 rfl rfl ?_
      refine gf_Md_66 (pc := 181) rfl d_Md_share_181 ?_
      rw [h4]
      refine cs_Md_221_d (pc := 184) rfl d_Md_share_184 ⟨⟨by decide, by decide⟩, rfl, rfl⟩ (m_ways (by omega)) (Nat.le_of_ble_eq_true rfl) ?_
      rw [f1]
      refine wh_iload_n (pc := 187) d_Md_share_187 rfl rfl ?_
      refine cs_Md_224_d (pc := 188) rfl d_Md_share_188 ⟨⟨by decide, by decide⟩, rfl, rfl⟩ (m_fraction ha1 ha2 f2 (by omega)) (Nat.le_of_ble_eq_true rfl) ?_
      refine wh_iret (pc := 191) d_Md_share_191 rfl ?_
      exact ⟨_, rfl, hI.1, by unfold shaF; rw [if_neg hz, hcw]⟩
    · intro i hi _ ih
      obtain ⟨hb1, hb2⟩ := bit_le (nW (pageS h 48)) (by omega) i hi w hk
      have es : shM (shT (pageS h 48) w) w (i + 1) = if hasB (nI i) w then shM (shT (pageS h 48) w) w i else shM (shT (pageS h 48) w) w i + (shT (pageS h 48) w) i := rfl
      by_cases c : hasB (nI i) w
      · refine wh_iload (pc := 105) d_Md_share_105 rfl ?_
        refine wh_iconst (pc := 107) (v := 1) d_Md_share_107 (by decide) ?_
        refine wh_aload_n (pc := 108) d_Md_share_108 rfl rfl ?_
        refine gf_Md_66 (pc := 109) rfl d_Md_share_109 ?_
        refine wh_ishl (pc := 112) d_Md_share_112 ?_
        refine wh_icmp_ge (pc := 113) (tgt := 179) d_Md_share_113 (by decide) (fun c_113 => absurd c_113 (by rw [h4, shl_n _ (by omega)]; exact nI_ge hi (by omega))) (fun c_113 => ?_)
        refine wh_iload (pc := 116) d_Md_share_116 rfl ?_
        refine wh_iload_n (pc := 118) d_Md_share_118 rfl rfl ?_
        refine cs_Md_130_d (pc := 119) rfl d_Md_share_119 ⟨⟨by decide, by decide⟩, rfl, rfl⟩ (m_has) (Nat.le_of_ble_eq_true rfl) ?_
        refine wh_if_ne (pc := 122) (tgt := 173) d_Md_share_122 (by decide) (fun c_122 => ?_) (fun c_122 => absurd c_122 (by rw [c]; decide))
        refine wh_iinc (pc := 173) (ls2 := [_, _, _, _, _, _]) d_Md_share_173 rfl (nI_inc _) (by decide) rfl rfl ?_
        refine wh_goto (pc := 176) (tgt := 105) d_Md_share_176 (by decide) ?_
        refine wh_eq (ih trivial) ?_ rfl rfl
        rw [es, if_pos c]
      · have c : hasB (nI i) w = false := by simpa using c
        obtain ⟨hlt, hor, hbn⟩ := hb2 c
        have hbe : bitC (nI i) = nI (bn i) := (bit_in (nW (pageS h 48)) (by omega) i hi).1
        have v1 : gI g 59 (nI (i + 2 ^ w)).toNatClampNeg = grV (pageS h 48) (i + 2 ^ w) := by rw [cl_nI (by omega)]; exact hI.2 _ hlt
        have v2 : gI g 59 (nI i).toNatClampNeg = grV (pageS h 48) i := by rw [cl_nI (by omega)]; exact hI.2 _ hi
        refine wh_iload (pc := 105) d_Md_share_105 rfl ?_
        refine wh_iconst (pc := 107) (v := 1) d_Md_share_107 (by decide) ?_
        refine wh_aload_n (pc := 108) d_Md_share_108 rfl rfl ?_
        refine gf_Md_66 (pc := 109) rfl d_Md_share_109 ?_
        refine wh_ishl (pc := 112) d_Md_share_112 ?_
        refine wh_icmp_ge (pc := 113) (tgt := 179) d_Md_share_113 (by decide) (fun c_113 => absurd c_113 (by rw [h4, shl_n _ (by omega)]; exact nI_ge hi (by omega))) (fun c_113 => ?_)
        refine wh_iload (pc := 116) d_Md_share_116 rfl ?_
        refine wh_iload_n (pc := 118) d_Md_share_118 rfl rfl ?_
        refine cs_Md_130_d (pc := 119) rfl d_Md_share_119 ⟨⟨by decide, by decide⟩, rfl, rfl⟩ (m_has) (Nat.le_of_ble_eq_true rfl) ?_
        refine wh_if_ne (pc := 122) (tgt := 173) d_Md_share_122 (by decide) (fun c_122 => absurd (by rw [c]; decide) c_122) (fun c_122 => ?_)
        refine wh_iload (pc := 125) d_Md_share_125 rfl ?_
        refine cs_Md_134_d (pc := 127) rfl d_Md_share_127 ⟨⟨by decide, by decide⟩, rfl, rfl⟩ ((show SD l D base M_Md_many [.int (nI i)] _ (some (.int (nI (bn i)))) _ by rw [← hbe, ← many_bit i (by omega)]; exact m_many)) (Nat.le_of_ble_eq_true rfl) ?_
        refine wh_istore (pc := 130) (ls2 := [_, _, _, _, _, _]) d_Md_share_130 (by decide) rfl rfl ?_
        refine wh_iload_n (pc := 132) d_Md_share_132 rfl rfl ?_
        refine wh_iload (pc := 133) d_Md_share_133 rfl ?_
        refine cs_Md_221_d (pc := 135) rfl d_Md_share_135 ⟨⟨by decide, by decide⟩, rfl, rfl⟩ (m_ways (by omega)) (Nat.le_of_ble_eq_true rfl) ?_
        refine wh_aload_n (pc := 138) d_Md_share_138 rfl rfl ?_
        refine gf_Md_66 (pc := 139) rfl d_Md_share_139 ?_
        refine wh_iconst (pc := 142) (v := 1) d_Md_share_142 (by decide) ?_
        refine wh_isub (pc := 143) d_Md_share_143 ?_
        refine wh_iload (pc := 144) d_Md_share_144 rfl ?_
        refine wh_isub (pc := 146) d_Md_share_146 ?_
        rw [h4, down_n hbn (by omega)]
        refine cs_Md_221_d (pc := 147) rfl d_Md_share_147 ⟨⟨by decide, by decide⟩, rfl, rfl⟩ (m_ways (by omega)) (Nat.le_of_ble_eq_true rfl) ?_
        refine wh_imul (pc := 150) d_Md_share_150 ?_
        refine wh_aload_n (pc := 151) d_Md_share_151 rfl rfl ?_
        refine gf_Md_59 (pc := 152) rfl d_Md_share_152 ?_
        refine wh_iload (pc := 155) d_Md_share_155 rfl ?_
        refine wh_iconst (pc := 157) (v := 1) d_Md_share_157 (by decide) ?_
        refine wh_iload_n (pc := 158) d_Md_share_158 rfl rfl ?_
        refine wh_ishl (pc := 159) d_Md_share_159 ?_
        refine wh_ior (pc := 160) d_Md_share_160 ?_
        rw [shl_n _ (by omega), hor]
        refine wh_iald (pc := 161) d_Md_share_161 rfl (by first | exact in_nI (by omega) (by omega) | (simp only [a0, a5, a10, a19]; exact in_nI (by omega) (by omega)) | exact vp_in_iff.mpr (by decide)) ?_
        refine wh_aload_n (pc := 162) d_Md_share_162 rfl rfl ?_
        refine gf_Md_59 (pc := 163) rfl d_Md_share_163 ?_
        refine wh_iload (pc := 166) d_Md_share_166 rfl ?_
        refine wh_iald (pc := 168) d_Md_share_168 rfl (by first | exact in_nI (by omega) (by omega) | (simp only [a0, a5, a10, a19]; exact in_nI (by omega) (by omega)) | exact vp_in_iff.mpr (by decide)) ?_
        rw [v1, v2]
        refine wh_isub (pc := 169) d_Md_share_169 ?_
        refine wh_imul (pc := 170) d_Md_share_170 ?_
        refine wh_iadd (pc := 171) d_Md_share_171 ?_
        refine wh_istore_n (pc := 172) (ls2 := [_, _, _, _, _, _]) d_Md_share_172 rfl (by decide) rfl rfl ?_
        refine wh_iinc (pc := 173) (ls2 := [_, _, _, _, _, _]) d_Md_share_173 rfl (nI_inc _) (by decide) rfl rfl ?_
        refine wh_goto (pc := 176) (tgt := 105) d_Md_share_176 (by decide) ?_
        refine wh_drop (i := 5) (ls2 := [_, _, _, _, _, _]) rfl ?_
        refine wh_eq (ih trivial) ?_ rfl rfl
        rw [es, if_neg (by rw [c]; decide)]
        rfl
  · intro i g hi hI ih
    have hgS : pageS g 48 = (pageS h 48) := fm_page hI.1
    have hB : pageS (bgH g) 49 = (pageS h 48) := by rw [page_bg (by rw [hgS]; exact hw5) (by rw [hgS]; exact hm6), hgS]
    have h4 : gI g 42 4 = nI (nW (pageS h 48)) := (hI.1.2 42 4 (by unfold scM; omega)).trans (pf_w hF8)
    have h4q : ∀ q, gI (fillA (bgH g) 49 (fun k => if hasB (nI i) k then (pageS h 48) 1 k else 0) q) 42 4 = nI (nW (pageS h 48)) := fun q => by rw [gI_fillN (by decide)]; exact (gI_fillN (by decide)).trans h4
    have hT : pageS (fillA (bgH g) 49 (fun k => if hasB (nI i) k then (pageS h 48) 1 k else 0) (nW (pageS h 48))) 49 = (grS (pageS h 48) (nI i)) := by
      rw [show nW (pageS h 48) = nW (pageS (bgH g) 49) by rw [hB], page_row (by rw [hB]; exact hw5), hB]
      rfl
    have hTF := gr_wf hF8 (nI i)
    have hL : FM h (layH (fillA (bgH g) 49 (fun k => if hasB (nI i) k then (pageS h 48) 1 k else 0) (nW (pageS h 48))) 49) := ((hI.1.tr fm_bg).tr (show FM (bgH g) (fillA (bgH g) 49 (fun k => if hasB (nI i) k then (pageS h 48) 1 k else 0) (nW (pageS h 48))) from ⟨rfl, fun c j q => gI_fillN (fun z => q (by unfold scM; omega))⟩)).tr fm_lay
    have h59 : ∀ d, gI (layH (fillA (bgH g) 49 (fun k => if hasB (nI i) k then (pageS h 48) 1 k else 0) (nW (pageS h 48))) 49) 59 d = gI g 59 d := fun d => by rw [lay_N (by decide) (by decide), gI_fillN (by decide)]; exact gI_fillN (by decide)
    refine wh_iload_n (pc := 17) d_Md_share_17 rfl rfl ?_
    refine wh_iconst (pc := 18) (v := 1) d_Md_share_18 (by decide) ?_
    refine wh_aload_n (pc := 19) d_Md_share_19 rfl rfl ?_
    refine gf_Md_66 (pc := 20) rfl d_Md_share_20 ?_
    refine wh_ishl (pc := 23) d_Md_share_23 ?_
    refine wh_icmp_ge (pc := 24) (tgt := 100) d_Md_share_24 (by decide) (fun c_24 => absurd c_24 (by rw [h4, shl_n _ (by omega)]; exact nI_ge hi (by omega))) (fun c_24 => ?_)
    refine wh_aload_n (pc := 27) d_Md_share_27 rfl rfl ?_
    refine cv_Md_180_d (pc := 28) rfl d_Md_share_28 ⟨⟨by decide, by decide⟩, rfl, rfl⟩ ((show SD l D base M_Md_begin [.ref 42] g none (bgH g) from m_begin)) (Nat.le_of_ble_eq_true rfl) ?_
    refine wh_iconst (pc := 31) (v := 0) d_Md_share_31 (by decide) ?_
    refine wh_istore (pc := 32) (ls2 := [_, _, _, _, _, _]) d_Md_share_32 (by decide) rfl rfl ?_
    refine wh_eq (wh_loop (nW (pageS h 48)) (fun q => [some (.ref 42), some (.int (nI w)), some (.int b), some (.int (nI i)), some (.int (nI q)), none]) (fun q => (fillA (bgH g) 49 (fun k => if hasB (nI i) k then (pageS h 48) 1 k else 0) q)) (fun _ => True) ?_ ?_ 0 (Nat.zero_le _) trivial) rfl rfl (fill_0 _ _ _).symm
    · intro _
      refine wh_iload (pc := 34) d_Md_share_34 rfl ?_
      refine wh_aload_n (pc := 36) d_Md_share_36 rfl rfl ?_
      refine gf_Md_66 (pc := 37) rfl d_Md_share_37 ?_
      refine wh_icmp_ge (pc := 40) (tgt := 80) d_Md_share_40 (by decide) (fun c_40 => ?_) (fun c_40 => absurd (by rw [h4q]; exact nI_le (Nat.le_refl _) (by omega)) c_40)
      refine wh_aload_n (pc := 80) d_Md_share_80 rfl rfl ?_
      refine gf_Md_59 (pc := 81) rfl d_Md_share_81 ?_
      refine wh_iload_n (pc := 84) d_Md_share_84 rfl rfl ?_
      refine wh_aload_n (pc := 85) d_Md_share_85 rfl rfl ?_
      refine wh_aload_n (pc := 86) d_Md_share_86 rfl rfl ?_
      refine gf_Md_28 (pc := 87) rfl d_Md_share_87 ?_
      refine cv_Md_148_d (pc := 90) rfl d_Md_share_90 ⟨⟨by decide, by decide⟩, rfl, rfl⟩ (m_lay (Or.inr rfl) hT hTF) (Nat.le_of_ble_eq_true rfl) ?_
      refine wh_iast (pc := 93) d_Md_share_93 rfl (by first | exact in_nI (by omega) (by omega) | (simp only [a0, a5, a10, a19]; exact in_nI (by omega) (by omega)) | exact vp_in_iff.mpr (by decide)) ?_
      refine wh_iinc (pc := 94) (ls2 := [_, _, _, _, _, _]) d_Md_share_94 rfl (nI_inc _) (by decide) rfl rfl ?_
      refine wh_goto (pc := 97) (tgt := 17) d_Md_share_97 (by decide) ?_
      refine wh_drop (i := 4) (ls2 := [_, _, _, _, _, _]) rfl ?_
      rw [cl_nI (show i < 2 ^ 31 by omega)]
      refine ih _ ⟨hL.tr (fm_sI (by unfold scM; omega)), fun d hd => ?_⟩
      by_cases e : d = i
      · rw [e, gI_sS]; rfl
      · rw [gI_sM (by omega), h59]; exact hI.2 d (by omega)
    · intro q hq _ ih2
      have hcq := cl_nI (show q < 2 ^ 31 by omega)
      have eq1 : gI (fillA (bgH g) 49 (fun k => if hasB (nI i) k then (pageS h 48) 1 k else 0) q) 48 (0 + nI q).toNatClampNeg = (pageS h 48) 1 q := by rw [a0, hcq, gI_fillN (by decide)]; exact (gI_fillN (by decide)).trans ((hI.1.2 48 q (by unfold scM; omega)).trans (pa1 hq))
      refine wh_iload (pc := 34) d_Md_share_34 rfl ?_
      refine wh_aload_n (pc := 36) d_Md_share_36 rfl rfl ?_
      refine gf_Md_66 (pc := 37) rfl d_Md_share_37 ?_
      refine wh_icmp_ge (pc := 40) (tgt := 80) d_Md_share_40 (by decide) (fun c_40 => absurd c_40 (by rw [h4q]; exact nI_ge hq (by omega))) (fun c_40 => ?_)
      refine wh_aload_n (pc := 43) d_Md_share_43 rfl rfl ?_
      refine gf_Md_28 (pc := 44) rfl d_Md_share_44 ?_
      refine wh_iconst (pc := 47) (v := 0) d_Md_share_47 (by decide) ?_
      refine wh_iload (pc := 48) d_Md_share_48 rfl ?_
      refine wh_iadd (pc := 50) d_Md_share_50 ?_
      refine wh_iload_n (pc := 51) d_Md_share_51 rfl rfl ?_
      refine wh_iload (pc := 52) d_Md_share_52 rfl ?_
      refine cs_Md_130_d (pc := 54) rfl d_Md_share_54 ⟨⟨by decide, by decide⟩, rfl, rfl⟩ (m_has) (Nat.le_of_ble_eq_true rfl) ?_
      refine wh_if_eq (pc := 57) (tgt := 72) d_Md_share_57 (by decide) (fun c_57 => ?_) (fun c_57 => ?_)
      · refine wh_iconst (pc := 72) (v := 0) d_Md_share_72 (by decide) ?_
        refine wh_iast (pc := 73) d_Md_share_73 rfl (by rw [a0]; exact in_nI (show q < 24 by omega) (by omega)) ?_
        refine wh_iinc (pc := 74) (ls2 := [_, _, _, _, _, _]) d_Md_share_74 rfl (nI_inc _) (by decide) rfl rfl ?_
        refine wh_goto (pc := 77) (tgt := 34) d_Md_share_77 (by decide) ?_
        rw [a0, hcq]
        rw [t01] at c_57
        refine wh_eq (ih2 trivial) rfl rfl (fill_s _ _ _ _ ?_)
        first
          | (rw [if_neg (by rw [c_57]; decide)]; done)
          | (rw [if_pos (by simpa using c_57)]; done)
      · refine wh_aload_n (pc := 60) d_Md_share_60 rfl rfl ?_
        refine gf_Md_25 (pc := 61) rfl d_Md_share_61 ?_
        refine wh_iconst (pc := 64) (v := 0) d_Md_share_64 (by decide) ?_
        refine wh_iload (pc := 65) d_Md_share_65 rfl ?_
        refine wh_iadd (pc := 67) d_Md_share_67 ?_
        refine wh_iald (pc := 68) d_Md_share_68 rfl (by rw [a0]; exact in_nI (show q < 24 by omega) (by omega)) ?_
        rw [eq1]
        refine wh_goto (pc := 69) (tgt := 73) d_Md_share_69 (by decide) ?_
        refine wh_iast (pc := 73) d_Md_share_73 rfl (by rw [a0]; exact in_nI (show q < 24 by omega) (by omega)) ?_
        refine wh_iinc (pc := 74) (ls2 := [_, _, _, _, _, _]) d_Md_share_74 rfl (nI_inc _) (by decide) rfl rfl ?_
        refine wh_goto (pc := 77) (tgt := 34) d_Md_share_77 (by decide) ?_
        rw [a0, hcq]
        rw [t01] at c_57
        refine wh_eq (ih2 trivial) rfl rfl (fill_s _ _ _ _ ?_)
        first
          | (rw [if_neg (by rw [c_57]; decide)]; done)
          | (rw [if_pos (by simpa using c_57)]; done)
theorem x_share {l : Launch} {D : va_G} {base : Nat} (w b : Int32) : CMD l D base M_Lm_share M_Md_share [.int w, .int b] := CMD.q (fun h => shaF (laneS h 2) w b) (fun h h' f _ => by rw [fc_lane f]) (fun h hr => c_share hr w b) (fun h hr => r_share hr w b)

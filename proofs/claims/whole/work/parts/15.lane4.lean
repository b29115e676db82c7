theorem s_drawn {l : Launch} {D : va_G} {base : Nat} {b : Nat} (hb : IsLane b) {h : Hp} {S : St} (hS : laneS h b = S) (hF : WFS S) {k : Nat} (hk : k < nW S) : SD l D base M_Ln_mothsDrawnBy [.ref b, .int (nI k)] h (some (.int (orN (fun j => hasB (drawsF S j) k) (nM S)))) h := by
  refine SP.of [some (.ref b), some (.int (nI k)), none, none] (by decide) rfl (Nat.le_of_ble_eq_true rfl) ?_
  subst hS
  have hw5 := hF.1.1
  have hm6 := hF.2.1.1
  refine wh_iconst (pc := 0) (v := 0) d_Ln_mothsDrawnBy_0 (by decide) ?_
  refine wh_istore_n (pc := 1) (ls2 := [_, _, _, _]) d_Ln_mothsDrawnBy_1 rfl (by decide) rfl rfl ?_
  refine wh_iconst (pc := 2) (v := 0) d_Ln_mothsDrawnBy_2 (by decide) ?_
  refine wh_istore_n (pc := 3) (ls2 := [_, _, _, _]) d_Ln_mothsDrawnBy_3 rfl (by decide) rfl rfl ?_
  refine wh_eq (wh_loop (nM (laneS h b)) (fun i => [some (.ref b), some (.int (nI k)), some (.int (orN (fun j => hasB (drawsF (laneS h b) j) k) i)), some (.int (nI i))]) (fun i => h) (fun i => True) ?_ ?_ 0 (Nat.zero_le _) trivial) ?_ rfl ?_
  · intro _
    refine wh_iload_n (pc := 4) d_Ln_mothsDrawnBy_4 rfl rfl ?_
    refine wh_aload_n (pc := 5) d_Ln_mothsDrawnBy_5 rfl rfl ?_
    refine gf_Ln_34 (pc := 6) hb rfl d_Ln_mothsDrawnBy_6 ?_
    refine wh_icmp_ge (pc := 9) (tgt := 37) d_Ln_mothsDrawnBy_9 (by decide) (fun c_9 => ?_) (fun c_9 => absurd (by rw [wf_m hF]; exact nI_le (Nat.le_refl _) (by omega)) c_9)
    refine wh_iload_n (pc := 37) d_Ln_mothsDrawnBy_37 rfl rfl ?_
    refine wh_iret (pc := 38) d_Ln_mothsDrawnBy_38 rfl ?_
    exact ⟨rfl, rfl⟩
  · intro i hi _ ih
    refine wh_iload_n (pc := 4) d_Ln_mothsDrawnBy_4 rfl rfl ?_
    refine wh_aload_n (pc := 5) d_Ln_mothsDrawnBy_5 rfl rfl ?_
    refine gf_Ln_34 (pc := 6) hb rfl d_Ln_mothsDrawnBy_6 ?_
    refine wh_icmp_ge (pc := 9) (tgt := 37) d_Ln_mothsDrawnBy_9 (by decide) (fun c_9 => absurd c_9 (by rw [wf_m hF]; exact nI_ge hi (by omega))) (fun c_9 => ?_)
    refine wh_aload_n (pc := 12) d_Ln_mothsDrawnBy_12 rfl rfl ?_
    refine wh_iload_n (pc := 13) d_Ln_mothsDrawnBy_13 rfl rfl ?_
    refine cv_Ln_78_d (pc := 14) hb rfl d_Ln_mothsDrawnBy_14 ⟨⟨by decide, by decide⟩, rfl, rfl⟩ (s_draws hb rfl hF hi) (Nat.le_of_ble_eq_true rfl) ?_
    refine wh_iload_n (pc := 17) d_Ln_mothsDrawnBy_17 rfl rfl ?_
    refine wh_ishr (pc := 18) d_Ln_mothsDrawnBy_18 ?_
    refine wh_iconst (pc := 19) (v := 1) d_Ln_mothsDrawnBy_19 (by decide) ?_
    refine wh_iand (pc := 20) d_Ln_mothsDrawnBy_20 ?_
    refine wh_iconst (pc := 21) (v := 1) d_Ln_mothsDrawnBy_21 (by decide) ?_
    refine wh_icmp_ne (pc := 22) (tgt := 31) d_Ln_mothsDrawnBy_22 (by decide) (fun c_22 => ?_) (fun c_22 => ?_)
    · refine wh_iinc (pc := 31) (ls2 := [_, _, _, _]) d_Ln_mothsDrawnBy_31 rfl (nI_inc _) (by decide) rfl rfl ?_
      refine wh_goto (pc := 34) (tgt := 4) d_Ln_mothsDrawnBy_34 (by decide) ?_
      refine wh_eq (ih trivial) ?_ rfl rfl
      have hc : hasB (drawsF (laneS h b) i) k = _ := (by first | exact decide_eq_true c_22 | exact decide_eq_false c_22)
      simp only [orN, hc]
      rfl
    · refine wh_iload_n (pc := 25) d_Ln_mothsDrawnBy_25 rfl rfl ?_
      refine wh_iconst (pc := 26) (v := 1) d_Ln_mothsDrawnBy_26 (by decide) ?_
      refine wh_iload_n (pc := 27) d_Ln_mothsDrawnBy_27 rfl rfl ?_
      refine wh_ishl (pc := 28) d_Ln_mothsDrawnBy_28 ?_
      refine wh_ior (pc := 29) d_Ln_mothsDrawnBy_29 ?_
      refine wh_istore_n (pc := 30) (ls2 := [_, _, _, _]) d_Ln_mothsDrawnBy_30 rfl (by decide) rfl rfl ?_
      refine wh_iinc (pc := 31) (ls2 := [_, _, _, _]) d_Ln_mothsDrawnBy_31 rfl (nI_inc _) (by decide) rfl rfl ?_
      refine wh_goto (pc := 34) (tgt := 4) d_Ln_mothsDrawnBy_34 (by decide) ?_
      refine wh_eq (ih trivial) ?_ rfl rfl
      have hc : hasB (drawsF (laneS h b) i) k = _ := (by first | exact decide_eq_true c_22 | exact decide_eq_false c_22)
      simp only [orN, hc]
      rfl
  · rfl
  · rfl
theorem s_tax {l : Launch} {D : va_G} {base : Nat} {b : Nat} (hb : IsLane b) {h : Hp} {S : St} (hS : laneS h b = S) (hF : WFS S) {j : Nat} (hj : j < nM S) : SD l D base M_Ln_taxOf [.ref b, .int (nI j)] h (some (.int (taxF (S 4 j)))) h := by
  refine SP.of [some (.ref b), some (.int (nI j))] (by decide) rfl (Nat.le_of_ble_eq_true rfl) ?_
  subst hS
  have hw5 := hF.1.1
  have hm6 := hF.2.1.1
  refine wh_aload_n (pc := 0) d_Ln_taxOf_0 rfl rfl ?_
  refine gf_Ln_27 (pc := 1) hb rfl d_Ln_taxOf_1 ?_
  refine wh_iload_n (pc := 4) d_Ln_taxOf_4 rfl rfl ?_
  refine wh_iald (pc := 5) d_Ln_taxOf_5 (la_sorts hb) (in_nI (by omega) (by omega)) ?_
  refine wh_iconst (pc := 6) (v := 2) d_Ln_taxOf_6 (by decide) ?_
  refine wh_icmp_ne (pc := 7) (tgt := 12) d_Ln_taxOf_7 (by decide) (fun c_7 => ?_) (fun c_7 => ?_)
  · refine wh_aload_n (pc := 12) d_Ln_taxOf_12 rfl rfl ?_
    refine gf_Ln_27 (pc := 13) hb rfl d_Ln_taxOf_13 ?_
    refine wh_iload_n (pc := 16) d_Ln_taxOf_16 rfl rfl ?_
    refine wh_iald (pc := 17) d_Ln_taxOf_17 (la_sorts hb) (in_nI (by omega) (by omega)) ?_
    refine wh_iconst (pc := 18) (v := 1) d_Ln_taxOf_18 (by decide) ?_
    refine wh_icmp_ne (pc := 19) (tgt := 27) d_Ln_taxOf_19 (by decide) (fun c_19 => ?_) (fun c_19 => ?_)
    · refine wh_bipush (pc := 27) (v := 6) d_Ln_taxOf_27 (by decide) ?_
      refine wh_iret (pc := 29) d_Ln_taxOf_29 rfl ?_
      refine ⟨rfl, ?_⟩
      simp only [cl_nI (show j < 2 ^ 31 by omega), la4 hj] at *
      simp [taxF, *]
    · refine wh_bipush (pc := 22) (v := 18) d_Ln_taxOf_22 (by decide) ?_
      refine wh_goto (pc := 24) (tgt := 29) d_Ln_taxOf_24 (by decide) ?_
      refine wh_iret (pc := 29) d_Ln_taxOf_29 rfl ?_
      refine ⟨rfl, ?_⟩
      simp only [cl_nI (show j < 2 ^ 31 by omega), la4 hj] at *
      simp [taxF, *]
  · refine wh_iconst (pc := 10) (v := 0) d_Ln_taxOf_10 (by decide) ?_
    refine wh_iret (pc := 11) d_Ln_taxOf_11 rfl ?_
    refine ⟨rfl, ?_⟩
    simp only [cl_nI (show j < 2 ^ 31 by omega), la4 hj] at *
    simp [taxF, *]
def chF (d t : Int32) (k : Nat) (x : Int32) : Int32 := if bitC d < 1 then x else if hasB d k then x + t / bitC d else x
theorem s_charge {l : Launch} {D : va_G} {base : Nat} {b : Nat} (hb : IsLane b) {h : Hp} {n : Nat} (hn : gI h b 6 = nI n) (h5 : n ≤ 5) {d t : Int32} : SD l D base M_Ln_charge [.ref b, .int d, .int t] h none (fillA h (b + 7) (fun k => chF d t k (gI h (b + 7) k)) n) := by
  refine SP.of [some (.ref b), some (.int d), some (.int t), none, none] (by decide) rfl (Nat.le_of_ble_eq_true rfl) ?_
  have hbn : b + 7 ≠ b := by omega
  have hg : ∀ (f : Nat → Int32) (i : Nat), gI (fillA h (b + 7) f i) b 6 = nI n := fun f i => by rw [gI_fillN (by omega)]; exact hn
  refine wh_iload_n (pc := 0) d_Ln_charge_0 rfl rfl ?_
  refine cs_Ln_88_d (pc := 1) rfl d_Ln_charge_1 ⟨⟨by decide, by decide⟩, rfl, rfl⟩ (s_bitC) (Nat.le_of_ble_eq_true rfl) ?_
  refine wh_istore_n (pc := 4) (ls2 := [_, _, _, _, _]) d_Ln_charge_4 rfl (by decide) rfl rfl ?_
  refine wh_iload_n (pc := 5) d_Ln_charge_5 rfl rfl ?_
  refine wh_iconst (pc := 6) (v := 1) d_Ln_charge_6 (by decide) ?_
  refine wh_icmp_ge (pc := 7) (tgt := 11) d_Ln_charge_7 (by decide) (fun c_7 => ?_) (fun c_7 => ?_)
  · refine wh_iconst (pc := 11) (v := 0) d_Ln_charge_11 (by decide) ?_
    refine wh_istore (pc := 12) (ls2 := [_, _, _, _, _]) d_Ln_charge_12 (by decide) rfl rfl ?_
    refine wh_eq (wh_loop (n) (fun i => [some (.ref b), some (.int d), some (.int t), some (.int (bitC d)), some (.int (nI i))]) (fun i => fillA h (b + 7) (fun k => chF d t k (gI h (b + 7) k)) i) (fun i => True) ?_ ?_ 0 (Nat.zero_le _) trivial) ?_ rfl ?_
    · intro _
      refine wh_iload (pc := 14) d_Ln_charge_14 rfl ?_
      refine wh_aload_n (pc := 16) d_Ln_charge_16 rfl rfl ?_
      refine gf_Ln_30 (pc := 17) hb rfl d_Ln_charge_17 ?_
      refine wh_icmp_ge (pc := 20) (tgt := 52) d_Ln_charge_20 (by decide) (fun c_20 => ?_) (fun c_20 => absurd (by rw [hg]; exact nI_le (Nat.le_refl _) (by omega)) c_20)
      refine wh_vret (pc := 52) d_Ln_charge_52 rfl ?_
      exact ⟨rfl, rfl⟩
    · intro i hi _ ih
      refine wh_iload (pc := 14) d_Ln_charge_14 rfl ?_
      refine wh_aload_n (pc := 16) d_Ln_charge_16 rfl rfl ?_
      refine gf_Ln_30 (pc := 17) hb rfl d_Ln_charge_17 ?_
      refine wh_icmp_ge (pc := 20) (tgt := 52) d_Ln_charge_20 (by decide) (fun c_20 => absurd c_20 (by rw [hg]; exact nI_ge hi (by omega))) (fun c_20 => ?_)
      refine wh_iload_n (pc := 23) d_Ln_charge_23 rfl rfl ?_
      refine wh_iload (pc := 24) d_Ln_charge_24 rfl ?_
      refine wh_ishr (pc := 26) d_Ln_charge_26 ?_
      refine wh_iconst (pc := 27) (v := 1) d_Ln_charge_27 (by decide) ?_
      refine wh_iand (pc := 28) d_Ln_charge_28 ?_
      refine wh_iconst (pc := 29) (v := 1) d_Ln_charge_29 (by decide) ?_
      refine wh_icmp_ne (pc := 30) (tgt := 46) d_Ln_charge_30 (by decide) (fun c_30 => ?_) (fun c_30 => ?_)
      · refine wh_iinc (pc := 46) (ls2 := [_, _, _, _, _]) d_Ln_charge_46 rfl (nI_inc _) (by decide) rfl rfl ?_
        refine wh_goto (pc := 49) (tgt := 14) d_Ln_charge_49 (by decide) ?_
        have hz : ¬ bitC d < 1 := by rw [i_lt]; rw [i_le] at c_7; omega
        first
          | (have hc : hasB d i = true := decide_eq_true c_30
             rw [cl_nI (show i < 2 ^ 31 by omega)]
             refine wh_eq (ih trivial) rfl rfl ?_
             refine fill_s _ _ _ _ ?_
             unfold chF
             rw [if_neg hz, hc, gI_fillO (Nat.le_refl _)]; rfl)
          | (have hc : hasB d i = false := decide_eq_false c_30
             refine wh_eq (ih trivial) rfl rfl ?_
             refine (fill_skip ?_).symm
             unfold chF
             rw [if_neg hz, hc]; rfl)
      · refine wh_aload_n (pc := 33) d_Ln_charge_33 rfl rfl ?_
        refine gf_Ln_46 (pc := 34) hb rfl d_Ln_charge_34 ?_
        refine wh_iload (pc := 37) d_Ln_charge_37 rfl ?_
        refine wh_dup2 (pc := 39) d_Ln_charge_39 rfl rfl ?_
        refine wh_iald (pc := 40) d_Ln_charge_40 (la_dues hb) (in_nI (by omega) (by omega)) ?_
        refine wh_iload_n (pc := 41) d_Ln_charge_41 rfl rfl ?_
        refine wh_iload_n (pc := 42) d_Ln_charge_42 rfl rfl ?_
        refine wh_idiv (pc := 43) d_Ln_charge_43 (fun q => by rw [q] at c_7; exact absurd c_7 (by decide)) ?_
        refine wh_iadd (pc := 44) d_Ln_charge_44 ?_
        refine wh_iast (pc := 45) d_Ln_charge_45 (la_dues hb) (in_nI (by omega) (by omega)) ?_
        refine wh_iinc (pc := 46) (ls2 := [_, _, _, _, _]) d_Ln_charge_46 rfl (nI_inc _) (by decide) rfl rfl ?_
        refine wh_goto (pc := 49) (tgt := 14) d_Ln_charge_49 (by decide) ?_
        have hz : ¬ bitC d < 1 := by rw [i_lt]; rw [i_le] at c_7; omega
        first
          | (have hc : hasB d i = true := decide_eq_true c_30
             rw [cl_nI (show i < 2 ^ 31 by omega)]
             refine wh_eq (ih trivial) rfl rfl ?_
             refine fill_s _ _ _ _ ?_
             unfold chF
             rw [if_neg hz, hc, gI_fillO (Nat.le_refl _)]; rfl)
          | (have hc : hasB d i = false := decide_eq_false c_30
             refine wh_eq (ih trivial) rfl rfl ?_
             refine (fill_skip ?_).symm
             unfold chF
             rw [if_neg hz, hc]; rfl)
    · rfl
    · exact (fill_0 _ _ _).symm
  · refine wh_vret (pc := 10) d_Ln_charge_10 rfl ?_
    refine ⟨?_, rfl⟩
    exact (fill_id (fun k hk => by unfold chF; rw [if_pos]; rw [i_lt]; rw [i_le] at c_7; omega)).symm
theorem s_reckon {l : Launch} {D : va_G} {base : Nat} {b : Nat} (hb : IsLane b) {h : Hp} {S : St} (hS : laneS h b = S) (hF : WFS S) : SD l D base M_Ln_reckon [.ref b] h none (fillA h (b + 7) (owedF S) (nW S)) := by
  refine SP.of [some (.ref b), none] (by decide) rfl (Nat.le_of_ble_eq_true rfl) ?_
  subst hS
  have hw5 := hF.1.1
  have hm6 := hF.2.1.1
  have hg : ∀ (g : Hp) (f : Nat → Int32) (i : Nat), gI (fillA g (b + 7) f i) b 6 = gI g b 6 := fun g f i => gI_fillN (by omega)
  have hgm : ∀ (g : Hp) (f : Nat → Int32) (i : Nat), gI (fillA g (b + 7) f i) b 7 = gI g b 7 := fun g f i => gI_fillN (by omega)
  refine wh_iconst (pc := 0) (v := 0) d_Ln_reckon_0 (by decide) ?_
  refine wh_istore_n (pc := 1) (ls2 := [_, _]) d_Ln_reckon_1 rfl (by decide) rfl rfl ?_
  refine wh_eq (wh_loop (nW (laneS h b)) (fun i => [some (.ref b), some (.int (nI i))]) (fun i => fillA h (b + 7) (fun _ => 0) i) (fun i => True) ?_ ?_ 0 (Nat.zero_le _) trivial) rfl rfl (fill_0 _ _ _).symm
  · intro _
    refine wh_iload_n (pc := 2) d_Ln_reckon_2 rfl rfl ?_
    refine wh_aload_n (pc := 3) d_Ln_reckon_3 rfl rfl ?_
    refine gf_Ln_30 (pc := 4) hb rfl d_Ln_reckon_4 ?_
    refine wh_icmp_ge (pc := 7) (tgt := 23) d_Ln_reckon_7 (by decide) (fun c_7 => ?_) (fun c_7 => absurd (by simp only [hg, wf_w hF]; exact nI_le (Nat.le_refl _) (by omega)) c_7)
    refine wh_iconst (pc := 23) (v := 0) d_Ln_reckon_23 (by decide) ?_
    refine wh_istore_n (pc := 24) (ls2 := [_, _]) d_Ln_reckon_24 rfl (by decide) rfl rfl ?_
    refine wh_eq (wh_loop (nM (laneS h b)) (fun i => [some (.ref b), some (.int (nI i))]) (fun i => fillA h (b + 7) (fun k => dueN (laneS h b) k i) (nW (laneS h b))) (fun i => True) ?_ ?_ 0 (Nat.zero_le _) trivial) rfl rfl rfl
    · intro _
      refine wh_iload_n (pc := 25) d_Ln_reckon_25 rfl rfl ?_
      refine wh_aload_n (pc := 26) d_Ln_reckon_26 rfl rfl ?_
      refine gf_Ln_34 (pc := 27) hb rfl d_Ln_reckon_27 ?_
      refine wh_icmp_ge (pc := 30) (tgt := 53) d_Ln_reckon_30 (by decide) (fun c_30 => ?_) (fun c_30 => absurd (by simp only [hgm, wf_m hF]; exact nI_le (Nat.le_refl _) (by omega)) c_30)
      refine wh_iconst (pc := 53) (v := 0) d_Ln_reckon_53 (by decide) ?_
      refine wh_istore_n (pc := 54) (ls2 := [_, _]) d_Ln_reckon_54 rfl (by decide) rfl rfl ?_
      refine wh_eq (wh_loop (nW (laneS h b)) (fun i => [some (.ref b), some (.int (nI i))]) (fun i => fillA (fillA h (b + 7) (fun k => dueN (laneS h b) k (nM (laneS h b))) (nW (laneS h b))) (b + 7) (owedF (laneS h b)) i) (fun i => True) ?_ ?_ 0 (Nat.zero_le _) trivial) rfl rfl (fill_0 _ _ _).symm
      · intro _
        refine wh_iload_n (pc := 55) d_Ln_reckon_55 rfl rfl ?_
        refine wh_aload_n (pc := 56) d_Ln_reckon_56 rfl rfl ?_
        refine gf_Ln_30 (pc := 57) hb rfl d_Ln_reckon_57 ?_
        refine wh_icmp_ge (pc := 60) (tgt := 89) d_Ln_reckon_60 (by decide) (fun c_60 => ?_) (fun c_60 => absurd (by simp only [hg, wf_w hF]; exact nI_le (Nat.le_refl _) (by omega)) c_60)
        refine wh_vret (pc := 89) d_Ln_reckon_89 rfl ?_
        refine ⟨?_, rfl⟩
        exact fill_fill _ _ _ _ _
      · intro i hi _ ih
        refine wh_iload_n (pc := 55) d_Ln_reckon_55 rfl rfl ?_
        refine wh_aload_n (pc := 56) d_Ln_reckon_56 rfl rfl ?_
        refine gf_Ln_30 (pc := 57) hb rfl d_Ln_reckon_57 ?_
        refine wh_icmp_ge (pc := 60) (tgt := 89) d_Ln_reckon_60 (by decide) (fun c_60 => absurd c_60 (by simp only [hg, wf_w hF]; exact nI_ge hi (by omega))) (fun c_60 => ?_)
        refine wh_aload_n (pc := 63) d_Ln_reckon_63 rfl rfl ?_
        refine gf_Ln_18 (pc := 64) hb rfl d_Ln_reckon_64 ?_
        refine wh_iload_n (pc := 67) d_Ln_reckon_67 rfl rfl ?_
        refine wh_iald (pc := 68) d_Ln_reckon_68 (la_kinds hb) (in_nI (by omega) (by omega)) ?_
        refine wh_iconst (pc := 69) (v := 2) d_Ln_reckon_69 (by decide) ?_
        refine wh_icmp_ne (pc := 70) (tgt := 83) d_Ln_reckon_70 (by decide) (fun c_70 => ?_) (fun c_70 => ?_)
        · refine wh_iinc (pc := 83) (ls2 := [_, _]) d_Ln_reckon_83 rfl (nI_inc _) (by decide) rfl rfl ?_
          refine wh_goto (pc := 86) (tgt := 55) d_Ln_reckon_86 (by decide) ?_
          rw [cl_nI (show i < 2 ^ 31 by omega)] at *
          rw [gI_fillN (by omega), gI_fillN (by omega), la2 hi] at c_70
          first
            | (refine wh_eq (ih trivial) rfl rfl ?_
               refine fill_s _ _ _ _ ?_
               rw [gI_fillO (Nat.le_refl _), gI_fillY hi]
               unfold owedF
               rw [if_pos c_70])
            | (refine wh_eq (ih trivial) rfl rfl ?_
               refine (fill_skip ?_).symm
               rw [gI_fillY hi]
               unfold owedF
               rw [if_neg c_70])
        · refine wh_aload_n (pc := 73) d_Ln_reckon_73 rfl rfl ?_
          refine gf_Ln_46 (pc := 74) hb rfl d_Ln_reckon_74 ?_
          refine wh_iload_n (pc := 77) d_Ln_reckon_77 rfl rfl ?_
          refine wh_dup2 (pc := 78) d_Ln_reckon_78 rfl rfl ?_
          refine wh_iald (pc := 79) d_Ln_reckon_79 (la_dues hb) (in_nI (by omega) (by omega)) ?_
          refine wh_iconst (pc := 80) (v := 2) d_Ln_reckon_80 (by decide) ?_
          refine wh_idiv (pc := 81) d_Ln_reckon_81 (by decide) ?_
          refine wh_iast (pc := 82) d_Ln_reckon_82 (la_dues hb) (in_nI (by omega) (by omega)) ?_
          refine wh_iinc (pc := 83) (ls2 := [_, _]) d_Ln_reckon_83 rfl (nI_inc _) (by decide) rfl rfl ?_
          refine wh_goto (pc := 86) (tgt := 55) d_Ln_reckon_86 (by decide) ?_
          rw [cl_nI (show i < 2 ^ 31 by omega)] at *
          rw [gI_fillN (by omega), gI_fillN (by omega), la2 hi] at c_70
          first
            | (refine wh_eq (ih trivial) rfl rfl ?_
               refine fill_s _ _ _ _ ?_
               rw [gI_fillO (Nat.le_refl _), gI_fillY hi]
               unfold owedF
               rw [if_pos c_70])
            | (refine wh_eq (ih trivial) rfl rfl ?_
               refine (fill_skip ?_).symm
               rw [gI_fillY hi]
               unfold owedF
               rw [if_neg c_70])
    · intro i hi _ ih
      refine wh_iload_n (pc := 25) d_Ln_reckon_25 rfl rfl ?_
      refine wh_aload_n (pc := 26) d_Ln_reckon_26 rfl rfl ?_
      refine gf_Ln_34 (pc := 27) hb rfl d_Ln_reckon_27 ?_
      refine wh_icmp_ge (pc := 30) (tgt := 53) d_Ln_reckon_30 (by decide) (fun c_30 => absurd c_30 (by simp only [hgm, wf_m hF]; exact nI_ge hi (by omega))) (fun c_30 => ?_)
      refine wh_aload_n (pc := 33) d_Ln_reckon_33 rfl rfl ?_
      refine wh_aload_n (pc := 34) d_Ln_reckon_34 rfl rfl ?_
      refine wh_iload_n (pc := 35) d_Ln_reckon_35 rfl rfl ?_
      refine cv_Ln_78_d (pc := 36) hb rfl d_Ln_reckon_36 ⟨⟨by decide, by decide⟩, rfl, rfl⟩ (s_draws hb lane_dues hF hi) (Nat.le_of_ble_eq_true rfl) ?_
      refine wh_aload_n (pc := 39) d_Ln_reckon_39 rfl rfl ?_
      refine wh_iload_n (pc := 40) d_Ln_reckon_40 rfl rfl ?_
      refine cv_Ln_81_d (pc := 41) hb rfl d_Ln_reckon_41 ⟨⟨by decide, by decide⟩, rfl, rfl⟩ (s_tax hb lane_dues hF hi) (Nat.le_of_ble_eq_true rfl) ?_
      refine cv_Ln_84_d (pc := 44) hb rfl d_Ln_reckon_44 ⟨⟨by decide, by decide⟩, rfl, rfl⟩ (s_charge hb (n := nW (laneS h b)) (by rw [gI_fillN (by omega)]; exact wf_w hF) hw5) (Nat.le_of_ble_eq_true rfl) ?_
      refine wh_iinc (pc := 47) (ls2 := [_, _]) d_Ln_reckon_47 rfl (nI_inc _) (by decide) rfl rfl ?_
      refine wh_goto (pc := 50) (tgt := 25) d_Ln_reckon_50 (by decide) ?_
      refine wh_eq (ih trivial) rfl rfl ?_
      rw [fill_fill]
      refine fill_congr (fun k hk => ?_)
      rw [gI_fillY hk]
      unfold chF
      show _ = if hasB (drawsF (laneS h b) i) k then dueN (laneS h b) k i + taxF (laneS h b 4 i) / bitC (drawsF (laneS h b) i) else dueN (laneS h b) k i
      by_cases hz : bitC (drawsF (laneS h b) i) < 1
      · obtain ⟨e, he, ee⟩ := draws_64 hw5 i
        rw [if_pos hz, ee, many_0 e he (by rw [← ee]; exact hz) k (by omega)]
        rfl
      · rw [if_neg hz]
  · intro i hi _ ih
    refine wh_iload_n (pc := 2) d_Ln_reckon_2 rfl rfl ?_
    refine wh_aload_n (pc := 3) d_Ln_reckon_3 rfl rfl ?_
    refine gf_Ln_30 (pc := 4) hb rfl d_Ln_reckon_4 ?_
    refine wh_icmp_ge (pc := 7) (tgt := 23) d_Ln_reckon_7 (by decide) (fun c_7 => absurd c_7 (by simp only [hg, wf_w hF]; exact nI_ge hi (by omega))) (fun c_7 => ?_)
    refine wh_aload_n (pc := 10) d_Ln_reckon_10 rfl rfl ?_
    refine gf_Ln_46 (pc := 11) hb rfl d_Ln_reckon_11 ?_
    refine wh_iload_n (pc := 14) d_Ln_reckon_14 rfl rfl ?_
    refine wh_iconst (pc := 15) (v := 0) d_Ln_reckon_15 (by decide) ?_
    refine wh_iast (pc := 16) d_Ln_reckon_16 (la_dues hb) (in_nI (by omega) (by omega)) ?_
    refine wh_iinc (pc := 17) (ls2 := [_, _]) d_Ln_reckon_17 rfl (nI_inc _) (by decide) rfl rfl ?_
    refine wh_goto (pc := 20) (tgt := 2) d_Ln_reckon_20 (by decide) ?_
    rw [cl_nI (show i < 2 ^ 31 by omega)]
    refine wh_eq (ih trivial) rfl rfl ?_
    exact fill_s _ _ _ _ rfl
theorem s_owedBy {l : Launch} {D : va_G} {base : Nat} {b : Nat} (hb : IsLane b) {h : Hp} {S : St} (hS : laneS h b = S) (hF : WFS S) {k : Nat} (hk : k < nW S) : SD l D base M_Ln_owedBy [.ref b, .int (nI k)] h (some (.int (owedF S k))) (fillA h (b + 7) (owedF S) (nW S)) := by
  refine SP.of [some (.ref b), some (.int (nI k))] (by decide) rfl (Nat.le_of_ble_eq_true rfl) ?_
  subst hS
  have hw5 := hF.1.1
  have hm6 := hF.2.1.1
  refine wh_aload_n (pc := 0) d_Ln_owedBy_0 rfl rfl ?_
  refine wh_iload_n (pc := 1) d_Ln_owedBy_1 rfl rfl ?_
  refine cv_Ln_49_d (pc := 2) hb rfl d_Ln_owedBy_2 ⟨⟨by decide, by decide⟩, rfl, rfl⟩ (s_hasWindow hb (wf_w hF) hw5) (Nat.le_of_ble_eq_true rfl) ?_
  refine wh_if_ne (pc := 5) (tgt := 10) d_Ln_owedBy_5 (by decide) (fun c_5 => ?_) (fun c_5 => absurd c_5 (by rw [bI_in hk (by omega)]; decide))
  refine wh_aload_n (pc := 10) d_Ln_owedBy_10 rfl rfl ?_
  refine cv_Ln_93_d (pc := 11) hb rfl d_Ln_owedBy_11 ⟨⟨by decide, by decide⟩, rfl, rfl⟩ (s_reckon hb rfl hF) (Nat.le_of_ble_eq_true rfl) ?_
  refine wh_aload_n (pc := 14) d_Ln_owedBy_14 rfl rfl ?_
  refine gf_Ln_46 (pc := 15) hb rfl d_Ln_owedBy_15 ?_
  refine wh_iload_n (pc := 18) d_Ln_owedBy_18 rfl rfl ?_
  refine wh_iald (pc := 19) d_Ln_owedBy_19 (la_dues hb) (in_nI (by omega) (by omega)) ?_
  refine wh_iret (pc := 20) d_Ln_owedBy_20 rfl ?_
  refine ⟨rfl, ?_⟩
  rw [cl_nI (show k < 2 ^ 31 by omega), gI_fillY hk]
theorem s_all {l : Launch} {D : va_G} {base : Nat} {b : Nat} (hb : IsLane b) {h : Hp} {S : St} (hS : laneS h b = S) (hF : WFS S) : SD l D base M_Ln_owedByAll [.ref b] h (some (.int (allF S))) (fillA h (b + 7) (owedF S) (nW S)) := by
  refine SP.of [some (.ref b), none, none] (by decide) rfl (Nat.le_of_ble_eq_true rfl) ?_
  subst hS
  have hw5 := hF.1.1
  have hm6 := hF.2.1.1
  refine wh_aload_n (pc := 0) d_Ln_owedByAll_0 rfl rfl ?_
  refine cv_Ln_93_d (pc := 1) hb rfl d_Ln_owedByAll_1 ⟨⟨by decide, by decide⟩, rfl, rfl⟩ (s_reckon hb rfl hF) (Nat.le_of_ble_eq_true rfl) ?_
  refine wh_iconst (pc := 4) (v := 0) d_Ln_owedByAll_4 (by decide) ?_
  refine wh_istore_n (pc := 5) (ls2 := [_, _, _]) d_Ln_owedByAll_5 rfl (by decide) rfl rfl ?_
  refine wh_iconst (pc := 6) (v := 0) d_Ln_owedByAll_6 (by decide) ?_
  refine wh_istore_n (pc := 7) (ls2 := [_, _, _]) d_Ln_owedByAll_7 rfl (by decide) rfl rfl ?_
  refine wh_eq (wh_loop (nW (laneS h b)) (fun i => [some (.ref b), some (.int (smN (owedF (laneS h b)) i)), some (.int (nI i))]) (fun i => fillA h (b + 7) (owedF (laneS h b)) (nW (laneS h b))) (fun i => True) ?_ ?_ 0 (Nat.zero_le _) trivial) ?_ rfl ?_
  · intro _
    refine wh_iload_n (pc := 8) d_Ln_owedByAll_8 rfl rfl ?_
    refine wh_aload_n (pc := 9) d_Ln_owedByAll_9 rfl rfl ?_
    refine gf_Ln_30 (pc := 10) hb rfl d_Ln_owedByAll_10 ?_
    refine wh_icmp_ge (pc := 13) (tgt := 31) d_Ln_owedByAll_13 (by decide) (fun c_13 => ?_) (fun c_13 => absurd (by rw [gI_fillN (by omega), wf_w hF]; exact nI_le (Nat.le_refl _) (by omega)) c_13)
    refine wh_iload_n (pc := 31) d_Ln_owedByAll_31 rfl rfl ?_
    refine wh_iret (pc := 32) d_Ln_owedByAll_32 rfl ?_
    exact ⟨rfl, rfl⟩
  · intro i hi _ ih
    refine wh_iload_n (pc := 8) d_Ln_owedByAll_8 rfl rfl ?_
    refine wh_aload_n (pc := 9) d_Ln_owedByAll_9 rfl rfl ?_
    refine gf_Ln_30 (pc := 10) hb rfl d_Ln_owedByAll_10 ?_
    refine wh_icmp_ge (pc := 13) (tgt := 31) d_Ln_owedByAll_13 (by decide) (fun c_13 => absurd c_13 (by rw [gI_fillN (by omega), wf_w hF]; exact nI_ge hi (by omega))) (fun c_13 => ?_)
    refine wh_iload_n (pc := 16) d_Ln_owedByAll_16 rfl rfl ?_
    refine wh_aload_n (pc := 17) d_Ln_owedByAll_17 rfl rfl ?_
    refine gf_Ln_46 (pc := 18) hb rfl d_Ln_owedByAll_18 ?_
    refine wh_iload_n (pc := 21) d_Ln_owedByAll_21 rfl rfl ?_
    refine wh_iald (pc := 22) d_Ln_owedByAll_22 (la_dues hb) (in_nI (by omega) (by omega)) ?_
    refine wh_iadd (pc := 23) d_Ln_owedByAll_23 ?_
    refine wh_istore_n (pc := 24) (ls2 := [_, _, _]) d_Ln_owedByAll_24 rfl (by decide) rfl rfl ?_
    refine wh_iinc (pc := 25) (ls2 := [_, _, _]) d_Ln_owedByAll_25 rfl (nI_inc _) (by decide) rfl rfl ?_
    refine wh_goto (pc := 28) (tgt := 8) d_Ln_owedByAll_28 (by decide) ?_
    refine wh_eq (ih trivial) ?_ rfl rfl
    rw [cl_nI (show i < 2 ^ 31 by omega), gI_fillY hi]
    rfl
  · rfl
  · rfl
theorem s_paid {l : Launch} {D : va_G} {base : Nat} {b : Nat} (hb : IsLane b) {h : Hp} {S : St} (hS : laneS h b = S) (hF : WFS S) : SD l D base M_Ln_paidByAll [.ref b] h (some (.int (smN (fun k => gI h (b + 4) k) (nW S)))) h := by
  refine SP.of [some (.ref b), none, none] (by decide) rfl (Nat.le_of_ble_eq_true rfl) ?_
  subst hS
  have hw5 := hF.1.1
  have hm6 := hF.2.1.1
  refine wh_iconst (pc := 0) (v := 0) d_Ln_paidByAll_0 (by decide) ?_
  refine wh_istore_n (pc := 1) (ls2 := [_, _, _]) d_Ln_paidByAll_1 rfl (by decide) rfl rfl ?_
  refine wh_iconst (pc := 2) (v := 0) d_Ln_paidByAll_2 (by decide) ?_
  refine wh_istore_n (pc := 3) (ls2 := [_, _, _]) d_Ln_paidByAll_3 rfl (by decide) rfl rfl ?_
  refine wh_eq (wh_loop (nW (laneS h b)) (fun i => [some (.ref b), some (.int (smN (fun k => gI h (b + 4) k) i)), some (.int (nI i))]) (fun i => h) (fun i => True) ?_ ?_ 0 (Nat.zero_le _) trivial) ?_ rfl ?_
  · intro _
    refine wh_iload_n (pc := 4) d_Ln_paidByAll_4 rfl rfl ?_
    refine wh_aload_n (pc := 5) d_Ln_paidByAll_5 rfl rfl ?_
    refine gf_Ln_30 (pc := 6) hb rfl d_Ln_paidByAll_6 ?_
    refine wh_icmp_ge (pc := 9) (tgt := 27) d_Ln_paidByAll_9 (by decide) (fun c_9 => ?_) (fun c_9 => absurd (by rw [wf_w hF]; exact nI_le (Nat.le_refl _) (by omega)) c_9)
    refine wh_iload_n (pc := 27) d_Ln_paidByAll_27 rfl rfl ?_
    refine wh_iret (pc := 28) d_Ln_paidByAll_28 rfl ?_
    exact ⟨rfl, rfl⟩
  · intro i hi _ ih
    refine wh_iload_n (pc := 4) d_Ln_paidByAll_4 rfl rfl ?_
    refine wh_aload_n (pc := 5) d_Ln_paidByAll_5 rfl rfl ?_
    refine gf_Ln_30 (pc := 6) hb rfl d_Ln_paidByAll_6 ?_
    refine wh_icmp_ge (pc := 9) (tgt := 27) d_Ln_paidByAll_9 (by decide) (fun c_9 => absurd c_9 (by rw [wf_w hF]; exact nI_ge hi (by omega))) (fun c_9 => ?_)
    refine wh_iload_n (pc := 12) d_Ln_paidByAll_12 rfl rfl ?_
    refine wh_aload_n (pc := 13) d_Ln_paidByAll_13 rfl rfl ?_
    refine gf_Ln_21 (pc := 14) hb rfl d_Ln_paidByAll_14 ?_
    refine wh_iload_n (pc := 17) d_Ln_paidByAll_17 rfl rfl ?_
    refine wh_iald (pc := 18) d_Ln_paidByAll_18 (la_paid hb) (in_nI (by omega) (by omega)) ?_
    refine wh_iadd (pc := 19) d_Ln_paidByAll_19 ?_
    refine wh_istore_n (pc := 20) (ls2 := [_, _, _]) d_Ln_paidByAll_20 rfl (by decide) rfl rfl ?_
    refine wh_iinc (pc := 21) (ls2 := [_, _, _]) d_Ln_paidByAll_21 rfl (nI_inc _) (by decide) rfl rfl ?_
    refine wh_goto (pc := 24) (tgt := 4) d_Ln_paidByAll_24 (by decide) ?_
    refine wh_eq (ih trivial) ?_ rfl rfl
    rw [cl_nI (show i < 2 ^ 31 by omega)]
    rfl
  · rfl
  · rfl
theorem s_reads {l : Launch} {D : va_G} {base : Nat} {b : Nat} (hb : IsLane b) {h : Hp} {S : St} (hS : laneS h b = S) (hF : WFS S) {k : Nat} (hk : k < nW S) : SD l D base M_Ln_reads [.ref b, .int (nI k)] h (some (.int (if readF S k then 1 else 0))) h := by
  refine SP.of [some (.ref b), some (.int (nI k)), none] (by decide) rfl (Nat.le_of_ble_eq_true rfl) ?_
  subst hS
  have hw5 := hF.1.1
  have hm6 := hF.2.1.1
  refine wh_aload_n (pc := 0) d_Ln_reads_0 rfl rfl ?_
  refine wh_iload_n (pc := 1) d_Ln_reads_1 rfl rfl ?_
  refine cv_Ln_49_d (pc := 2) hb rfl d_Ln_reads_2 ⟨⟨by decide, by decide⟩, rfl, rfl⟩ (s_hasWindow hb (wf_w hF) hw5) (Nat.le_of_ble_eq_true rfl) ?_
  refine wh_if_ne (pc := 5) (tgt := 10) d_Ln_reads_5 (by decide) (fun c_5 => ?_) (fun c_5 => absurd c_5 (by rw [bI_in hk (by omega)]; decide))
  refine wh_aload_n (pc := 10) d_Ln_reads_10 rfl rfl ?_
  refine gf_Ln_15 (pc := 11) hb rfl d_Ln_reads_11 ?_
  refine wh_iload_n (pc := 14) d_Ln_reads_14 rfl rfl ?_
  refine wh_iald (pc := 15) d_Ln_reads_15 (la_burns hb) (in_nI (by omega) (by omega)) ?_
  refine wh_iconst (pc := 16) (v := 3) d_Ln_reads_16 (by decide) ?_
  refine wh_icmp_lt (pc := 17) (tgt := 22) d_Ln_reads_17 (by decide) (fun c_17 => ?_) (fun c_17 => ?_)
  · refine wh_iconst (pc := 22) (v := 0) d_Ln_reads_22 (by decide) ?_
    refine wh_istore_n (pc := 23) (ls2 := [_, _, _]) d_Ln_reads_23 rfl (by decide) rfl rfl ?_
    refine wh_eq (wh_loop (nW (laneS h b)) (fun i => [some (.ref b), some (.int (nI k)), some (.int (nI i))]) (fun i => h) (fun i => ∀ q, q < i → (fun o => decide (6 ≤ laneS h b 1 o) && nearF (laneS h b 0 o) (laneS h b 0 k)) q = false) ?_ ?_ 0 (Nat.zero_le _) (fun q hq => by omega)) ?_ rfl ?_
    · intro hI
      refine wh_iload_n (pc := 24) d_Ln_reads_24 rfl rfl ?_
      refine wh_aload_n (pc := 25) d_Ln_reads_25 rfl rfl ?_
      refine gf_Ln_30 (pc := 26) hb rfl d_Ln_reads_26 ?_
      refine wh_icmp_ge (pc := 29) (tgt := 71) d_Ln_reads_29 (by decide) (fun c_29 => ?_) (fun c_29 => absurd (by rw [wf_w hF]; exact nI_le (Nat.le_refl _) (by omega)) c_29)
      refine wh_iconst (pc := 71) (v := 0) d_Ln_reads_71 (by decide) ?_
      refine wh_zret (pc := 72) d_Ln_reads_72 rfl rfl ?_
      refine ⟨rfl, ?_⟩
      rw [cl_nI (show k < 2 ^ 31 by omega), la1 hk] at c_17
      have hc : decide (3 ≤ laneS h b 1 k) = false := by simp only [decide_eq_false_iff_not]; rw [i_lt] at c_17; rw [i_le]; omega
      unfold readF
      rw [hc, any_no _ hI]
      rfl
    · intro i hi hI ih
      refine wh_iload_n (pc := 24) d_Ln_reads_24 rfl rfl ?_
      refine wh_aload_n (pc := 25) d_Ln_reads_25 rfl rfl ?_
      refine gf_Ln_30 (pc := 26) hb rfl d_Ln_reads_26 ?_
      refine wh_icmp_ge (pc := 29) (tgt := 71) d_Ln_reads_29 (by decide) (fun c_29 => absurd c_29 (by rw [wf_w hF]; exact nI_ge hi (by omega))) (fun c_29 => ?_)
      refine wh_aload_n (pc := 32) d_Ln_reads_32 rfl rfl ?_
      refine gf_Ln_15 (pc := 33) hb rfl d_Ln_reads_33 ?_
      refine wh_iload_n (pc := 36) d_Ln_reads_36 rfl rfl ?_
      refine wh_iald (pc := 37) d_Ln_reads_37 (la_burns hb) (in_nI (by omega) (by omega)) ?_
      refine wh_bipush (pc := 38) (v := 6) d_Ln_reads_38 (by decide) ?_
      refine wh_icmp_lt (pc := 40) (tgt := 65) d_Ln_reads_40 (by decide) (fun c_40 => ?_) (fun c_40 => ?_)
      · refine wh_iinc (pc := 65) (ls2 := [_, _, _]) d_Ln_reads_65 rfl (nI_inc _) (by decide) rfl rfl ?_
        refine wh_goto (pc := 68) (tgt := 24) d_Ln_reads_68 (by decide) ?_
        refine ih (fun q hq => ?_)
        simp only [cl_nI (show k < 2 ^ 31 by omega), cl_nI (show i < 2 ^ 31 by omega), la0 hk, la0 hi, la1 hi] at *
        by_cases e : q = i
        · subst e
          simp only [nearF, Bool.and_eq_false_iff, decide_eq_false_iff_not]
          first | (left; rw [i_lt] at c_40; rw [i_le]; omega) | (right; rw [i_lt] at c_60; rw [i_le]; omega)
        · exact hI q (by omega)
      · refine wh_aload_n (pc := 43) d_Ln_reads_43 rfl rfl ?_
        refine gf_Ln_9 (pc := 44) hb rfl d_Ln_reads_44 ?_
        refine wh_iload_n (pc := 47) d_Ln_reads_47 rfl rfl ?_
        refine wh_iald (pc := 48) d_Ln_reads_48 (la_spots hb) (in_nI (by omega) (by omega)) ?_
        refine wh_aload_n (pc := 49) d_Ln_reads_49 rfl rfl ?_
        refine gf_Ln_9 (pc := 50) hb rfl d_Ln_reads_50 ?_
        refine wh_iload_n (pc := 53) d_Ln_reads_53 rfl rfl ?_
        refine wh_iald (pc := 54) d_Ln_reads_54 (la_spots hb) (in_nI (by omega) (by omega)) ?_
        refine wh_isub (pc := 55) d_Ln_reads_55 ?_
        refine wh_mabs (pc := 56) d_Ln_reads_56 ml_Ln_56 ⟨by decide, Nat.le_of_ble_eq_true rfl⟩ ?_
        refine wh_iconst (pc := 59) (v := 1) d_Ln_reads_59 (by decide) ?_
        refine wh_icmp_gt (pc := 60) (tgt := 65) d_Ln_reads_60 (by decide) (fun c_60 => ?_) (fun c_60 => ?_)
        · refine wh_iinc (pc := 65) (ls2 := [_, _, _]) d_Ln_reads_65 rfl (nI_inc _) (by decide) rfl rfl ?_
          refine wh_goto (pc := 68) (tgt := 24) d_Ln_reads_68 (by decide) ?_
          refine ih (fun q hq => ?_)
          simp only [cl_nI (show k < 2 ^ 31 by omega), cl_nI (show i < 2 ^ 31 by omega), la0 hk, la0 hi, la1 hi] at *
          by_cases e : q = i
          · subst e
            simp only [nearF, Bool.and_eq_false_iff, decide_eq_false_iff_not]
            first | (left; rw [i_lt] at c_40; rw [i_le]; omega) | (right; rw [i_lt] at c_60; rw [i_le]; omega)
          · exact hI q (by omega)
        · refine wh_iconst (pc := 63) (v := 1) d_Ln_reads_63 (by decide) ?_
          refine wh_zret (pc := 64) d_Ln_reads_64 rfl rfl ?_
          refine ⟨rfl, ?_⟩
          simp only [cl_nI (show k < 2 ^ 31 by omega), cl_nI (show i < 2 ^ 31 by omega), la0 hk, la0 hi, la1 hi] at *
          have hc : (fun o => decide (6 ≤ laneS h b 1 o) && nearF (laneS h b 0 o) (laneS h b 0 k)) i = true := by
            simp only [nearF, Bool.and_eq_true, decide_eq_true_eq]
            refine ⟨?_, ?_⟩
            · rw [i_lt] at c_40; rw [i_le]; omega
            · rw [i_lt] at c_60; rw [i_le]; omega
          unfold readF
          rw [any_yes _ i hi hc]
          simp
    · rfl
    · rfl
  · refine wh_iconst (pc := 20) (v := 1) d_Ln_reads_20 (by decide) ?_
    refine wh_zret (pc := 21) d_Ln_reads_21 rfl rfl ?_
    refine ⟨rfl, ?_⟩
    rw [cl_nI (show k < 2 ^ 31 by omega), la1 hk] at c_17
    have hc : decide (3 ≤ laneS h b 1 k) = true := by simp; rw [i_lt] at c_17; rw [i_le]; omega
    simp [readF, hc]
theorem s_readers {l : Launch} {D : va_G} {base : Nat} {b : Nat} (hb : IsLane b) {h : Hp} {S : St} (hS : laneS h b = S) (hF : WFS S) : SD l D base M_Ln_readers [.ref b] h (some (.int (readersF S))) h := by
  refine SP.of [some (.ref b), none, none] (by decide) rfl (Nat.le_of_ble_eq_true rfl) ?_
  subst hS
  have hw5 := hF.1.1
  have hm6 := hF.2.1.1
  refine wh_iconst (pc := 0) (v := 0) d_Ln_readers_0 (by decide) ?_
  refine wh_istore_n (pc := 1) (ls2 := [_, _, _]) d_Ln_readers_1 rfl (by decide) rfl rfl ?_
  refine wh_iconst (pc := 2) (v := 0) d_Ln_readers_2 (by decide) ?_
  refine wh_istore_n (pc := 3) (ls2 := [_, _, _]) d_Ln_readers_3 rfl (by decide) rfl rfl ?_
  refine wh_eq (wh_loop (nW (laneS h b)) (fun i => [some (.ref b), some (.int (orN (readF (laneS h b)) i)), some (.int (nI i))]) (fun i => h) (fun i => True) ?_ ?_ 0 (Nat.zero_le _) trivial) ?_ rfl ?_
  · intro _
    refine wh_iload_n (pc := 4) d_Ln_readers_4 rfl rfl ?_
    refine wh_aload_n (pc := 5) d_Ln_readers_5 rfl rfl ?_
    refine gf_Ln_30 (pc := 6) hb rfl d_Ln_readers_6 ?_
    refine wh_icmp_ge (pc := 9) (tgt := 32) d_Ln_readers_9 (by decide) (fun c_9 => ?_) (fun c_9 => absurd (by rw [wf_w hF]; exact nI_le (Nat.le_refl _) (by omega)) c_9)
    refine wh_iload_n (pc := 32) d_Ln_readers_32 rfl rfl ?_
    refine wh_iret (pc := 33) d_Ln_readers_33 rfl ?_
    exact ⟨rfl, rfl⟩
  · intro i hi _ ih
    refine wh_iload_n (pc := 4) d_Ln_readers_4 rfl rfl ?_
    refine wh_aload_n (pc := 5) d_Ln_readers_5 rfl rfl ?_
    refine gf_Ln_30 (pc := 6) hb rfl d_Ln_readers_6 ?_
    refine wh_icmp_ge (pc := 9) (tgt := 32) d_Ln_readers_9 (by decide) (fun c_9 => absurd c_9 (by rw [wf_w hF]; exact nI_ge hi (by omega))) (fun c_9 => ?_)
    refine wh_aload_n (pc := 12) d_Ln_readers_12 rfl rfl ?_
    refine wh_iload_n (pc := 13) d_Ln_readers_13 rfl rfl ?_
    refine cv_Ln_96_d (pc := 14) hb rfl d_Ln_readers_14 ⟨⟨by decide, by decide⟩, rfl, rfl⟩ (s_reads hb rfl hF hi) (Nat.le_of_ble_eq_true rfl) ?_
    refine wh_if_eq (pc := 17) (tgt := 26) d_Ln_readers_17 (by decide) (fun c_17 => ?_) (fun c_17 => ?_)
    · refine wh_iinc (pc := 26) (ls2 := [_, _, _]) d_Ln_readers_26 rfl (nI_inc _) (by decide) rfl rfl ?_
      refine wh_goto (pc := 29) (tgt := 4) d_Ln_readers_29 (by decide) ?_
      refine wh_eq (ih trivial) ?_ rfl rfl
      cases hc : readF (laneS h b) i
      · rw [hc] at c_17; first | (simp only [orN, hc]; rfl) | exact absurd rfl c_17
      · rw [hc] at c_17; first | (simp only [orN, hc]; rfl) | exact absurd c_17 (by decide)
    · refine wh_iload_n (pc := 20) d_Ln_readers_20 rfl rfl ?_
      refine wh_iconst (pc := 21) (v := 1) d_Ln_readers_21 (by decide) ?_
      refine wh_iload_n (pc := 22) d_Ln_readers_22 rfl rfl ?_
      refine wh_ishl (pc := 23) d_Ln_readers_23 ?_
      refine wh_ior (pc := 24) d_Ln_readers_24 ?_
      refine wh_istore_n (pc := 25) (ls2 := [_, _, _]) d_Ln_readers_25 rfl (by decide) rfl rfl ?_
      refine wh_iinc (pc := 26) (ls2 := [_, _, _]) d_Ln_readers_26 rfl (nI_inc _) (by decide) rfl rfl ?_
      refine wh_goto (pc := 29) (tgt := 4) d_Ln_readers_29 (by decide) ?_
      refine wh_eq (ih trivial) ?_ rfl rfl
      cases hc : readF (laneS h b) i
      · rw [hc] at c_17; first | (simp only [orN, hc]; rfl) | exact absurd rfl c_17
      · rw [hc] at c_17; first | (simp only [orN, hc]; rfl) | exact absurd c_17 (by decide)
  · rfl
  · rfl
theorem s_allRead {l : Launch} {D : va_G} {base : Nat} {b : Nat} (hb : IsLane b) {h : Hp} {S : St} (hS : laneS h b = S) (hF : WFS S) : SD l D base M_Ln_allRead [.ref b] h (some (.int (if readersF S = (1 <<< (S 5 0 &&& 31)) - 1 then 1 else 0))) h := by
  refine SP.of [some (.ref b)] (by decide) rfl (Nat.le_of_ble_eq_true rfl) ?_
  subst hS
  have hw5 := hF.1.1
  have hm6 := hF.2.1.1
  refine wh_aload_n (pc := 0) d_Ln_allRead_0 rfl rfl ?_
  refine cv_Ln_99_d (pc := 1) hb rfl d_Ln_allRead_1 ⟨⟨by decide, by decide⟩, rfl, rfl⟩ (s_readers hb rfl hF) (Nat.le_of_ble_eq_true rfl) ?_
  refine wh_iconst (pc := 4) (v := 1) d_Ln_allRead_4 (by decide) ?_
  refine wh_aload_n (pc := 5) d_Ln_allRead_5 rfl rfl ?_
  refine gf_Ln_30 (pc := 6) hb rfl d_Ln_allRead_6 ?_
  refine wh_ishl (pc := 9) d_Ln_allRead_9 ?_
  refine wh_iconst (pc := 10) (v := 1) d_Ln_allRead_10 (by decide) ?_
  refine wh_isub (pc := 11) d_Ln_allRead_11 ?_
  refine wh_icmp_ne (pc := 12) (tgt := 19) d_Ln_allRead_12 (by decide) (fun c_12 => ?_) (fun c_12 => ?_)
  · refine wh_iconst (pc := 19) (v := 0) d_Ln_allRead_19 (by decide) ?_
    refine wh_zret (pc := 20) d_Ln_allRead_20 rfl rfl ?_
    refine ⟨rfl, ?_⟩
    show _ = some (Value.int (if readersF (laneS h b) = (1 <<< (gI h b 6 &&& 31)) - 1 then 1 else 0))
    first | (rw [if_pos c_12]; done) | (rw [if_neg c_12]; done)
  · refine wh_iconst (pc := 15) (v := 1) d_Ln_allRead_15 (by decide) ?_
    refine wh_goto (pc := 16) (tgt := 20) d_Ln_allRead_16 (by decide) ?_
    refine wh_zret (pc := 20) d_Ln_allRead_20 rfl rfl ?_
    refine ⟨rfl, ?_⟩
    show _ = some (Value.int (if readersF (laneS h b) = (1 <<< (gI h b 6 &&& 31)) - 1 then 1 else 0))
    first | (rw [if_pos c_12]; done) | (rw [if_neg c_12]; done)

theorem c_power {l : Launch} {D : va_G} {base : Nat} {x : Int32} {k : Nat} (hk : k < 2 ^ 30) {h : Hp} : SD l D base M_Lm_power [.int x, .int (nI k)] h (some (.int (powN x k))) h := by
  refine SP.of [some (.int x), some (.int (nI k)), none, none] (by decide) rfl (Nat.le_of_ble_eq_true rfl) ?_
  refine wh_iconst (pc := 0) (v := 1) d_Lm_power_0 (by decide) ?_
  refine wh_istore_n (pc := 1) (ls2 := [_, _, _, _]) d_Lm_power_1 rfl (by decide) rfl rfl ?_
  refine wh_iconst (pc := 2) (v := 0) d_Lm_power_2 (by decide) ?_
  refine wh_istore_n (pc := 3) (ls2 := [_, _, _, _]) d_Lm_power_3 rfl (by decide) rfl rfl ?_
  refine wh_eq (wh_loop (k) (fun i => [some (.int x), some (.int (nI k)), some (.int (powN x i)), some (.int (nI i))]) (fun i => h) (fun i => True) ?_ ?_ 0 (Nat.zero_le _) trivial) ?_ rfl ?_
  · intro _
    refine wh_iload_n (pc := 4) d_Lm_power_4 rfl rfl ?_
    refine wh_iload_n (pc := 5) d_Lm_power_5 rfl rfl ?_
    refine wh_icmp_ge (pc := 6) (tgt := 19) d_Lm_power_6 (by decide) (fun c_6 => ?_) (fun c_6 => absurd (nI_le (Nat.le_refl _) (by omega)) c_6)
    refine wh_iload_n (pc := 19) d_Lm_power_19 rfl rfl ?_
    refine wh_iret (pc := 20) d_Lm_power_20 rfl ?_
    exact ⟨rfl, rfl⟩
  · intro i hi _ ih
    refine wh_iload_n (pc := 4) d_Lm_power_4 rfl rfl ?_
    refine wh_iload_n (pc := 5) d_Lm_power_5 rfl rfl ?_
    refine wh_icmp_ge (pc := 6) (tgt := 19) d_Lm_power_6 (by decide) (fun c_6 => absurd c_6 (nI_ge hi (by omega))) (fun c_6 => ?_)
    refine wh_iload_n (pc := 9) d_Lm_power_9 rfl rfl ?_
    refine wh_iload_n (pc := 10) d_Lm_power_10 rfl rfl ?_
    refine wh_imul (pc := 11) d_Lm_power_11 ?_
    refine wh_istore_n (pc := 12) (ls2 := [_, _, _, _]) d_Lm_power_12 rfl (by decide) rfl rfl ?_
    refine wh_iinc (pc := 13) (ls2 := [_, _, _, _]) d_Lm_power_13 rfl (nI_inc _) (by decide) rfl rfl ?_
    refine wh_goto (pc := 16) (tgt := 4) d_Lm_power_16 (by decide) ?_
    exact ih trivial
  · rfl
  · rfl
theorem c_cheap {l : Launch} {D : va_G} {base : Nat} {h : Hp} (hr : Rel h) (b : Int32) : SI l D base M_Lm_cheap [.ref 0, .int b] h (fun g x => FC h g ∧ x = cheapF (laneS h 2) b) := by
  refine SP.of [some (.ref 0), some (.int b), none, none, none, none, none] (by decide) rfl (Nat.le_of_ble_eq_true rfl) ?_
  obtain ⟨hSt, hF⟩ := hr.street
  have hw5 := hF.1.1
  have hm6 := hF.2.1.1
  by_cases h0 : nW (laneS h 2) = 0
  · refine wh_aload_n (pc := 0) d_Lm_cheap_0 rfl rfl ?_
    refine gf_Lm_20 (pc := 1) rfl d_Lm_cheap_1 ?_
    refine gf_Lm_76 (pc := 4) (Or.inl rfl) rfl d_Lm_cheap_4 ?_
    refine wh_iconst (pc := 7) (v := 1) d_Lm_cheap_7 (by decide) ?_
    refine wh_icmp_ge (pc := 8) (tgt := 14) d_Lm_cheap_8 (by decide) (fun c_8 => absurd c_8 (by rw [wf_w hF, h0]; decide)) (fun c_8 => ?_)
    refine wh_bipush (pc := 11) (v := (-9)) d_Lm_cheap_11 (by decide) ?_
    refine wh_iret (pc := 13) d_Lm_cheap_13 rfl ?_
    exact ⟨_, rfl, FC.rf h, by unfold cheapF; rw [if_pos h0]⟩
  · have hp3 := pow_le5 hw5
    have hlc := lane_cp hw5 hm6
    refine wh_aload_n (pc := 0) d_Lm_cheap_0 rfl rfl ?_
    refine gf_Lm_20 (pc := 1) rfl d_Lm_cheap_1 ?_
    refine gf_Lm_76 (pc := 4) (Or.inl rfl) rfl d_Lm_cheap_4 ?_
    refine wh_iconst (pc := 7) (v := 1) d_Lm_cheap_7 (by decide) ?_
    refine wh_icmp_ge (pc := 8) (tgt := 14) d_Lm_cheap_8 (by decide) (fun c_8 => ?_) (fun c_8 => absurd (by rw [wf_w hF]; exact nI_le (show 1 ≤ nW (laneS h 2) by omega) (by omega)) c_8)
    refine wh_aload_n (pc := 14) d_Lm_cheap_14 rfl rfl ?_
    refine gf_Lm_24 (pc := 15) rfl d_Lm_cheap_15 ?_
    refine wh_aload_n (pc := 18) d_Lm_cheap_18 rfl rfl ?_
    refine gf_Lm_20 (pc := 19) rfl d_Lm_cheap_19 ?_
    refine cv_Lm_72_d (pc := 22) (Or.inr rfl) rfl d_Lm_cheap_22 ⟨⟨by decide, by decide⟩, rfl, rfl⟩ (s_copy (Or.inr rfl) (Or.inl rfl) (by decide)) (Nat.le_of_ble_eq_true rfl) ?_
    refine wh_bipush (pc := 25) (v := (-9)) d_Lm_cheap_25 (by decide) ?_
    refine wh_istore_n (pc := 27) (ls2 := [_, _, _, _, _, _, _]) d_Lm_cheap_27 rfl (by decide) rfl rfl ?_
    refine wh_bipush (pc := 28) (v := (-9)) d_Lm_cheap_28 (by decide) ?_
    refine wh_istore_n (pc := 30) (ls2 := [_, _, _, _, _, _, _]) d_Lm_cheap_30 rfl (by decide) rfl rfl ?_
    refine wh_iconst (pc := 31) (v := 3) d_Lm_cheap_31 (by decide) ?_
    refine wh_aload_n (pc := 32) d_Lm_cheap_32 rfl rfl ?_
    refine gf_Lm_20 (pc := 33) rfl d_Lm_cheap_33 ?_
    refine gf_Lm_76 (pc := 36) (Or.inl rfl) rfl d_Lm_cheap_36 ?_
    refine cs_Lm_172_d (pc := 39) rfl d_Lm_cheap_39 ⟨⟨by decide, by decide⟩, rfl, rfl⟩ ((show SD l D base M_Lm_power [.int 3, .int (gI (cpN h 10 2 5 6) 2 6)] (cpN h 10 2 5 6) (some (.int (powN 3 (nW (laneS h 2))))) (cpN h 10 2 5 6) by rw [show gI (cpN h 10 2 5 6) 2 6 = nI (nW (laneS h 2)) from (fc_c fc_cp 2 6 (by omega)).trans (wf_w hF)]; exact c_power (by omega))) (Nat.le_of_ble_eq_true rfl) ?_
    refine wh_istore (pc := 42) (ls2 := [_, _, _, _, _, _, _]) d_Lm_cheap_42 (by decide) rfl rfl ?_
    refine wh_iconst (pc := 44) (v := 0) d_Lm_cheap_44 (by decide) ?_
    refine wh_istore (pc := 45) (ls2 := [_, _, _, _, _, _, _]) d_Lm_cheap_45 (by decide) rfl rfl ?_
    refine wh_eq (wh_loopR (3 ^ nW (laneS h 2)) (fun i => [some (.ref 0), some (.int b), some (.int (chN (laneS h 2) i).1), some (.int (chN (laneS h 2) i).2), some (.int (nI (3 ^ nW (laneS h 2)))), some (.int (nI i)), none]) (fun i g => FC h g ∧ simB (laneS g 10) (laneS h 2) ∧ WFS (laneS g 10)) ?_ ?_ 0 _ (Nat.zero_le _) ⟨fc_cp, by rw [hlc]; exact ⟨fun _ _ _ => rfl, fun _ _ => rfl⟩, by rw [hlc]; exact hF⟩) (by rw [pow_3 _ (by omega)]; rfl) rfl rfl
    · intro g hI
      refine wh_iload (pc := 47) d_Lm_cheap_47 rfl ?_
      refine wh_iload (pc := 49) d_Lm_cheap_49 rfl ?_
      refine wh_icmp_ge (pc := 51) (tgt := 111) d_Lm_cheap_51 (by decide) (fun c_51 => ?_) (fun c_51 => absurd (nI_le (Nat.le_refl _) (by omega)) c_51)
      refine wh_iload_n (pc := 111) d_Lm_cheap_111 rfl rfl ?_
      refine wh_if_eq (pc := 112) (tgt := 119) d_Lm_cheap_112 (by decide) (fun c_112 => ?_) (fun c_112 => ?_)
      · refine wh_iload_n (pc := 119) d_Lm_cheap_119 rfl rfl ?_
        refine wh_iret (pc := 120) d_Lm_cheap_120 rfl ?_
        refine ⟨_, rfl, hI.1, ?_⟩
        unfold cheapF
        rw [if_neg h0]
        first | (rw [if_pos c_112]; done) | (rw [if_neg c_112]; done)
      · refine wh_iload_n (pc := 115) d_Lm_cheap_115 rfl rfl ?_
        refine wh_goto (pc := 116) (tgt := 120) d_Lm_cheap_116 (by decide) ?_
        refine wh_iret (pc := 120) d_Lm_cheap_120 rfl ?_
        refine ⟨_, rfl, hI.1, ?_⟩
        unfold cheapF
        rw [if_neg h0]
        first | (rw [if_pos c_112]; done) | (rw [if_neg c_112]; done)
    · intro i g hi hI ih
      obtain ⟨hfc, hsim, hgF⟩ := hI
      have hT : laneS (th3 g 10 (nW (laneS g 10)) i (nW (laneS g 10))) 10 = (thS (laneS h 2) i) := by rw [lane_th, simB_th hsim]
      have hTF : WFS (thS (laneS h 2) i) := wf_th hF i
      have hT2 : laneS (fillA (th3 g 10 (nW (laneS g 10)) i (nW (laneS g 10))) (10 + 7) (owedF (thS (laneS h 2) i)) (nW (thS (laneS h 2) i))) 10 = (thS (laneS h 2) i) := by rw [lane_dues, hT]
      have hf1 : FC h (th3 g 10 (nW (laneS g 10)) i (nW (laneS g 10))) := hfc.tr ⟨rfl, fun c j q => by rw [gI_th, if_neg (fun z => q (by unfold scC; omega))]⟩
      have hf2 : FC h (fillA (th3 g 10 (nW (laneS g 10)) i (nW (laneS g 10))) (10 + 7) (owedF (thS (laneS h 2) i)) (nW (thS (laneS h 2) i))) := hf1.tr (fc_fill (by unfold scC; omega))
      have hsm : simB (thS (laneS h 2) i) (laneS h 2) := sim_th _ _
      have h50 : (thS (laneS h 2) i) 5 0 = (laneS h 2) 5 0 := th_n (by decide)
      have es : chN (laneS h 2) (i + 1) = if readersF (thS (laneS h 2) i) = (1 <<< ((laneS h 2) 5 0 &&& 31)) - 1 ∧ ((chN (laneS h 2) i).1 = -9 ∨ allF (thS (laneS h 2) i) < (chN (laneS h 2) i).1) then (allF (thS (laneS h 2) i), rowN (thS (laneS h 2) i) (nW (laneS h 2))) else chN (laneS h 2) i := rfl
      refine wh_iload (pc := 47) d_Lm_cheap_47 rfl ?_
      refine wh_iload (pc := 49) d_Lm_cheap_49 rfl ?_
      refine wh_icmp_ge (pc := 51) (tgt := 111) d_Lm_cheap_51 (by decide) (fun c_51 => absurd c_51 (nI_ge hi (by omega))) (fun c_51 => ?_)
      refine wh_aload_n (pc := 54) d_Lm_cheap_54 rfl rfl ?_
      refine gf_Lm_24 (pc := 55) rfl d_Lm_cheap_55 ?_
      refine wh_iload (pc := 58) d_Lm_cheap_58 rfl ?_
      refine cv_Lm_175_d (pc := 60) (Or.inr rfl) rfl d_Lm_cheap_60 ⟨⟨by decide, by decide⟩, rfl, rfl⟩ (s_threes (Or.inr rfl) rfl hgF (by omega)) (Nat.le_of_ble_eq_true rfl) ?_
      refine wh_aload_n (pc := 63) d_Lm_cheap_63 rfl rfl ?_
      refine gf_Lm_24 (pc := 64) rfl d_Lm_cheap_64 ?_
      refine cv_Lm_179_d (pc := 67) (Or.inr rfl) rfl d_Lm_cheap_67 ⟨⟨by decide, by decide⟩, rfl, rfl⟩ (s_allRead (Or.inr rfl) hT hTF) (Nat.le_of_ble_eq_true rfl) ?_
      refine wh_if_eq (pc := 70) (tgt := 105) d_Lm_cheap_70 (by decide) (fun c_70 => ?_) (fun c_70 => ?_)
      · refine wh_iinc (pc := 105) (ls2 := [_, _, _, _, _, _, _]) d_Lm_cheap_105 rfl (nI_inc _) (by decide) rfl rfl ?_
        refine wh_goto (pc := 108) (tgt := 47) d_Lm_cheap_108 (by decide) ?_
        first
          | refine wh_drop (i := 6) (ls2 := [_, _, _, _, _, _, _]) rfl ?_
          | skip
        rw [h50] at c_70
        by_cases z : readersF (thS (laneS h 2) i) = (1 <<< ((laneS h 2) 5 0 &&& 31)) - 1
        · rw [if_pos z] at c_70
          first
            | (exact absurd c_70 (by decide))
            | (refine wh_eq (ih _ ⟨hf2, by rw [hT2]; exact hsm, by rw [hT2]; exact hTF⟩) ?_ rfl rfl; rw [es, if_pos ⟨z, Or.inl ((ch_9 hF i).mpr c_85)⟩, nW_th]; done)
            | (refine wh_eq (ih _ ⟨hf2, by rw [hT2]; exact hsm, by rw [hT2]; exact hTF⟩) ?_ rfl rfl; rw [es, if_pos ⟨z, Or.inr (by rw [i_lt]; rw [i_le] at c_91; omega)⟩, nW_th]; done)
            | (refine wh_eq (ih _ ⟨hf2, by rw [hT2]; exact hsm, by rw [hT2]; exact hTF⟩) ?_ rfl rfl; rw [es, if_neg (fun y => y.2.elim (fun y => c_85 ((ch_9 hF i).mp y)) (fun y => by rw [i_lt] at y; rw [i_le] at c_91; omega))]; done)
        · rw [if_neg z] at c_70
          first
            | (exact absurd rfl c_70)
            | (refine wh_eq (ih _ ⟨hf1, by rw [hT]; exact hsm, by rw [hT]; exact hTF⟩) ?_ rfl rfl; rw [es, if_neg (fun y => z y.1)]; done)
      · refine wh_aload_n (pc := 73) d_Lm_cheap_73 rfl rfl ?_
        refine gf_Lm_24 (pc := 74) rfl d_Lm_cheap_74 ?_
        refine cv_Lm_95_d (pc := 77) (Or.inr rfl) rfl d_Lm_cheap_77 ⟨⟨by decide, by decide⟩, rfl, rfl⟩ (s_all (Or.inr rfl) hT hTF) (Nat.le_of_ble_eq_true rfl) ?_
        refine wh_istore (pc := 80) (ls2 := [_, _, _, _, _, _, _]) d_Lm_cheap_80 (by decide) rfl rfl ?_
        refine wh_iload_n (pc := 82) d_Lm_cheap_82 rfl rfl ?_
        refine wh_bipush (pc := 83) (v := (-9)) d_Lm_cheap_83 (by decide) ?_
        refine wh_icmp_eq (pc := 85) (tgt := 94) d_Lm_cheap_85 (by decide) (fun c_85 => ?_) (fun c_85 => ?_)
        · refine wh_iload (pc := 94) d_Lm_cheap_94 rfl ?_
          refine wh_istore_n (pc := 96) (ls2 := [_, _, _, _, _, _, _]) d_Lm_cheap_96 rfl (by decide) rfl rfl ?_
          refine wh_aload_n (pc := 97) d_Lm_cheap_97 rfl rfl ?_
          refine gf_Lm_24 (pc := 98) rfl d_Lm_cheap_98 ?_
          refine cv_Lm_183_d (pc := 101) (Or.inr rfl) rfl d_Lm_cheap_101 ⟨⟨by decide, by decide⟩, rfl, rfl⟩ (s_row (Or.inr rfl) hT2 hTF) (Nat.le_of_ble_eq_true rfl) ?_
          refine wh_istore_n (pc := 104) (ls2 := [_, _, _, _, _, _, _]) d_Lm_cheap_104 rfl (by decide) rfl rfl ?_
          refine wh_iinc (pc := 105) (ls2 := [_, _, _, _, _, _, _]) d_Lm_cheap_105 rfl (nI_inc _) (by decide) rfl rfl ?_
          refine wh_goto (pc := 108) (tgt := 47) d_Lm_cheap_108 (by decide) ?_
          first
            | refine wh_drop (i := 6) (ls2 := [_, _, _, _, _, _, _]) rfl ?_
            | skip
          rw [h50] at c_70
          by_cases z : readersF (thS (laneS h 2) i) = (1 <<< ((laneS h 2) 5 0 &&& 31)) - 1
          · rw [if_pos z] at c_70
            first
              | (exact absurd c_70 (by decide))
              | (refine wh_eq (ih _ ⟨hf2, by rw [hT2]; exact hsm, by rw [hT2]; exact hTF⟩) ?_ rfl rfl; rw [es, if_pos ⟨z, Or.inl ((ch_9 hF i).mpr c_85)⟩, nW_th]; done)
              | (refine wh_eq (ih _ ⟨hf2, by rw [hT2]; exact hsm, by rw [hT2]; exact hTF⟩) ?_ rfl rfl; rw [es, if_pos ⟨z, Or.inr (by rw [i_lt]; rw [i_le] at c_91; omega)⟩, nW_th]; done)
              | (refine wh_eq (ih _ ⟨hf2, by rw [hT2]; exact hsm, by rw [hT2]; exact hTF⟩) ?_ rfl rfl; rw [es, if_neg (fun y => y.2.elim (fun y => c_85 ((ch_9 hF i).mp y)) (fun y => by rw [i_lt] at y; rw [i_le] at c_91; omega))]; done)
          · rw [if_neg z] at c_70
            first
              | (exact absurd rfl c_70)
              | (refine wh_eq (ih _ ⟨hf1, by rw [hT]; exact hsm, by rw [hT]; exact hTF⟩) ?_ rfl rfl; rw [es, if_neg (fun y => z y.1)]; done)
        · refine wh_iload (pc := 88) d_Lm_cheap_88 rfl ?_
          refine wh_iload_n (pc := 90) d_Lm_cheap_90 rfl rfl ?_
          refine wh_icmp_ge (pc := 91) (tgt := 105) d_Lm_cheap_91 (by decide) (fun c_91 => ?_) (fun c_91 => ?_)
          · refine wh_iinc (pc := 105) (ls2 := [_, _, _, _, _, _, _]) d_Lm_cheap_105 rfl (nI_inc _) (by decide) rfl rfl ?_
            refine wh_goto (pc := 108) (tgt := 47) d_Lm_cheap_108 (by decide) ?_
            first
              | refine wh_drop (i := 6) (ls2 := [_, _, _, _, _, _, _]) rfl ?_
              | skip
            rw [h50] at c_70
            by_cases z : readersF (thS (laneS h 2) i) = (1 <<< ((laneS h 2) 5 0 &&& 31)) - 1
            · rw [if_pos z] at c_70
              first
                | (exact absurd c_70 (by decide))
                | (refine wh_eq (ih _ ⟨hf2, by rw [hT2]; exact hsm, by rw [hT2]; exact hTF⟩) ?_ rfl rfl; rw [es, if_pos ⟨z, Or.inl ((ch_9 hF i).mpr c_85)⟩, nW_th]; done)
                | (refine wh_eq (ih _ ⟨hf2, by rw [hT2]; exact hsm, by rw [hT2]; exact hTF⟩) ?_ rfl rfl; rw [es, if_pos ⟨z, Or.inr (by rw [i_lt]; rw [i_le] at c_91; omega)⟩, nW_th]; done)
                | (refine wh_eq (ih _ ⟨hf2, by rw [hT2]; exact hsm, by rw [hT2]; exact hTF⟩) ?_ rfl rfl; rw [es, if_neg (fun y => y.2.elim (fun y => c_85 ((ch_9 hF i).mp y)) (fun y => by rw [i_lt] at y; rw [i_le] at c_91; omega))]; done)
            · rw [if_neg z] at c_70
              first
                | (exact absurd rfl c_70)
                | (refine wh_eq (ih _ ⟨hf1, by rw [hT]; exact hsm, by rw [hT]; exact hTF⟩) ?_ rfl rfl; rw [es, if_neg (fun y => z y.1)]; done)
          · refine wh_iload (pc := 94) d_Lm_cheap_94 rfl ?_
            refine wh_istore_n (pc := 96) (ls2 := [_, _, _, _, _, _, _]) d_Lm_cheap_96 rfl (by decide) rfl rfl ?_
            refine wh_aload_n (pc := 97) d_Lm_cheap_97 rfl rfl ?_
            refine gf_Lm_24 (pc := 98) rfl d_Lm_cheap_98 ?_
            refine cv_Lm_183_d (pc := 101) (Or.inr rfl) rfl d_Lm_cheap_101 ⟨⟨by decide, by decide⟩, rfl, rfl⟩ (s_row (Or.inr rfl) hT2 hTF) (Nat.le_of_ble_eq_true rfl) ?_
            refine wh_istore_n (pc := 104) (ls2 := [_, _, _, _, _, _, _]) d_Lm_cheap_104 rfl (by decide) rfl rfl ?_
            refine wh_iinc (pc := 105) (ls2 := [_, _, _, _, _, _, _]) d_Lm_cheap_105 rfl (nI_inc _) (by decide) rfl rfl ?_
            refine wh_goto (pc := 108) (tgt := 47) d_Lm_cheap_108 (by decide) ?_
            first
              | refine wh_drop (i := 6) (ls2 := [_, _, _, _, _, _, _]) rfl ?_
              | skip
            rw [h50] at c_70
            by_cases z : readersF (thS (laneS h 2) i) = (1 <<< ((laneS h 2) 5 0 &&& 31)) - 1
            · rw [if_pos z] at c_70
              first
                | (exact absurd c_70 (by decide))
                | (refine wh_eq (ih _ ⟨hf2, by rw [hT2]; exact hsm, by rw [hT2]; exact hTF⟩) ?_ rfl rfl; rw [es, if_pos ⟨z, Or.inl ((ch_9 hF i).mpr c_85)⟩, nW_th]; done)
                | (refine wh_eq (ih _ ⟨hf2, by rw [hT2]; exact hsm, by rw [hT2]; exact hTF⟩) ?_ rfl rfl; rw [es, if_pos ⟨z, Or.inr (by rw [i_lt]; rw [i_le] at c_91; omega)⟩, nW_th]; done)
                | (refine wh_eq (ih _ ⟨hf2, by rw [hT2]; exact hsm, by rw [hT2]; exact hTF⟩) ?_ rfl rfl; rw [es, if_neg (fun y => y.2.elim (fun y => c_85 ((ch_9 hF i).mp y)) (fun y => by rw [i_lt] at y; rw [i_le] at c_91; omega))]; done)
            · rw [if_neg z] at c_70
              first
                | (exact absurd rfl c_70)
                | (refine wh_eq (ih _ ⟨hf1, by rw [hT]; exact hsm, by rw [hT]; exact hTF⟩) ?_ rfl rfl; rw [es, if_neg (fun y => z y.1)]; done)

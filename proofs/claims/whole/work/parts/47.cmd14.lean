def fitB (S : St) (W C T : Nat → Int32) (i : Nat) : Bool := decide (bI (W i) (nW S) = 0) || decide (owedF (setS S 5 2 (C i)) (W i).toNatClampNeg = T i)
def fitN (S : St) (W C T : Nat → Int32) : Nat → Bool
  | 0 => true
  | i + 1 => fitN S W C T i && fitB S W C T i
theorem fit_no {S : St} {W C T : Nat → Int32} {i : Nat} (h : fitB S W C T i = false) : ∀ n, i < n → fitN S W C T n = false
  | n + 1, hn => by
    show (fitN S W C T n && fitB S W C T n) = false
    by_cases e : i = n
    · rw [← e, h]; simp
    · rw [fit_no h n (by omega)]; rfl
theorem fit_congr {S : St} {W C T W' C' T' : Nat → Int32} : ∀ n, (∀ i, i < n → W i = W' i ∧ C i = C' i ∧ T i = T' i) → fitN S W C T n = fitN S W' C' T' n
  | 0, _ => rfl
  | n + 1, h => by
    obtain ⟨e1, e2, e3⟩ := h n (by omega)
    show (fitN S W C T n && fitB S W C T n) = (fitN S W' C' T' n && fitB S W' C' T' n)
    rw [fit_congr n (fun i hi => h i (by omega))]
    unfold fitB
    rw [e1, e2, e3]
theorem fit_z {S : St} {W C T : Nat → Int32} {i : Nat} (h : bI (W i) (nW S) = 0) : fitB S W C T i = true := by unfold fitB; rw [h]; rfl
theorem fit_k {S : St} {W C T : Nat → Int32} {i k : Nat} (hW : W i = nI k) (hk : k < nW S) (hw : nW S ≤ 5) : fitB S W C T i = decide (owedF (setS S 5 2 (C i)) k = T i) := by
  unfold fitB
  rw [hW, show decide (bI (nI k) (nW S) = 0) = false by simp only [decide_eq_false_iff_not]; exact bI_k hk (by omega), cl_nI (by omega)]
  rfl
def simW (T S : St) : Prop := ∀ r k, ¬ (r = 5 ∧ k = 2) → T r k = S r k
theorem simW_nW {T S : St} (h : simW T S) : nW T = nW S := by unfold nW; rw [h 5 0 (by decide)]
theorem simW_set {T S : St} (h : simW T S) (v : Int32) : setS T 5 2 v = setS S 5 2 v := by
  funext r k
  unfold setS
  by_cases c : r = 5 ∧ k = 2
  · rw [if_pos c, if_pos c]
  · rw [if_neg c, if_neg c, h r k c]
theorem simW_of (S : St) (v : Int32) : simW (setS S 5 2 v) S := fun r k h => set_n r k h
def simH (T S : St) : Prop := ∀ r k, ¬ (r = 5 ∧ (k = 2 ∨ k = 3)) → T r k = S r k
theorem simH_W {T S : St} (h : simH T S) (v : Int32) : simW (setS T 5 3 v) (setS S 5 3 v) := by
  intro r k hr
  unfold setS
  by_cases c : r = 5 ∧ k = 3
  · rw [if_pos c, if_pos c]
  · rw [if_neg c, if_neg c, h r k (by omega)]
theorem simW_H {T S : St} {v : Int32} (h : simW T (setS S 5 3 v)) : simH T S := by
  intro r k hr
  rw [h r k (by omega), set_n r k (by omega)]
def honF (h : Hp) : Int32 := orN (fun a => fitN (setS (laneS h 2) 5 3 (nI a)) (gI h 38) (gI h 39) (gI h 40) (gI h 0 12).toNatClampNeg) 10
theorem c_fits {l : Launch} {D : va_G} {base : Nat} {h : Hp} {S : St} (hS : simW (laneS h 10) S) (hF : WFS S) {nc : Nat} (hn : gI h 0 12 = nI nc) (h6n : nc ≤ 6) : SI l D base M_Lm_trialFitsCounted [.ref 0] h (fun g x => FC h g ∧ simW (laneS g 10) S ∧ x = if fitN S (gI h 38) (gI h 39) (gI h 40) nc then 1 else 0) := by
  refine SP.of [some (.ref 0), none, none] (by decide) rfl (Nat.le_of_ble_eq_true rfl) ?_
  have hw5 := hF.1.1
  refine wh_iconst (pc := 0) (v := 0) d_Lm_trialFitsCounted_0 (by decide) ?_
  refine wh_istore_n (pc := 1) (ls2 := [_, _, _]) d_Lm_trialFitsCounted_1 rfl (by decide) rfl rfl ?_
  refine wh_loopR nc (fun i => [some (.ref 0), some (.int (nI i)), none]) (fun i g => FC h g ∧ simW (laneS g 10) S ∧ fitN S (gI h 38) (gI h 39) (gI h 40) i = true) ?_ ?_ 0 h (Nat.zero_le _) ⟨FC.rf h, hS, rfl⟩
  · intro g hI
    have hc0 : gI g 0 12 = nI nc := (hI.1.2 0 12 (by unfold scC; omega)).trans hn
    refine wh_iload_n (pc := 2) d_Lm_trialFitsCounted_2 rfl rfl ?_
    refine wh_aload_n (pc := 3) d_Lm_trialFitsCounted_3 rfl rfl ?_
    refine gf_Lm_58 (pc := 4) rfl d_Lm_trialFitsCounted_4 ?_
    refine wh_icmp_ge (pc := 7) (tgt := 72) d_Lm_trialFitsCounted_7 (by decide) (fun c_7 => ?_) (fun c_7 => absurd (by rw [hc0]; exact nI_le (Nat.le_refl _) (by omega)) c_7)
    refine wh_iconst (pc := 72) (v := 1) d_Lm_trialFitsCounted_72 (by decide) ?_
    refine wh_zret (pc := 73) d_Lm_trialFitsCounted_73 rfl rfl ?_
    exact ⟨_, rfl, hI.1, hI.2.1, by rw [hI.2.2]; rfl⟩
  · intro i g hi hI ih
    obtain ⟨hfc, hsm, hft⟩ := hI
    have hci := cl_nI (show i < 2 ^ 31 by omega)
    have hc0 : gI g 0 12 = nI nc := (hfc.2 0 12 (by unfold scC; omega)).trans hn
    have e38 : gI g 38 (nI i).toNatClampNeg = gI h 38 i := by rw [hci]; exact hfc.2 38 i (by unfold scC; omega)
    have e39 : gI g 39 (nI i).toNatClampNeg = gI h 39 i := by rw [hci]; exact hfc.2 39 i (by unfold scC; omega)
    have h6 : gI g 10 6 = nI (nW S) := (hsm 5 0 (by decide)).trans hF.1.2
    rcases bI_two (w := gI h 38 i) (n := nW S) (by omega) with hz | ⟨k, hk, hwk⟩
    · refine wh_iload_n (pc := 2) d_Lm_trialFitsCounted_2 rfl rfl ?_
      refine wh_aload_n (pc := 3) d_Lm_trialFitsCounted_3 rfl rfl ?_
      refine gf_Lm_58 (pc := 4) rfl d_Lm_trialFitsCounted_4 ?_
      refine wh_icmp_ge (pc := 7) (tgt := 72) d_Lm_trialFitsCounted_7 (by decide) (fun c_7 => absurd c_7 (by rw [hc0]; exact nI_ge hi (by omega))) (fun c_7 => ?_)
      refine wh_iload_n (pc := 10) d_Lm_trialFitsCounted_10 rfl rfl ?_
      refine wh_bipush (pc := 11) (v := 6) d_Lm_trialFitsCounted_11 (by decide) ?_
      refine wh_icmp_ge (pc := 13) (tgt := 72) d_Lm_trialFitsCounted_13 (by decide) (fun c_13 => absurd c_13 (nI_ge (show i < 6 by omega) (by decide))) (fun c_13 => ?_)
      refine wh_aload_n (pc := 16) d_Lm_trialFitsCounted_16 rfl rfl ?_
      refine gf_Lm_49 (pc := 17) rfl d_Lm_trialFitsCounted_17 ?_
      refine wh_iload_n (pc := 20) d_Lm_trialFitsCounted_20 rfl rfl ?_
      refine wh_iald (pc := 21) d_Lm_trialFitsCounted_21 rfl (in_nI (by omega) (by omega)) ?_
      rw [e38]
      refine wh_istore_n (pc := 22) (ls2 := [_, _, _]) d_Lm_trialFitsCounted_22 rfl (by decide) rfl rfl ?_
      refine wh_aload_n (pc := 23) d_Lm_trialFitsCounted_23 rfl rfl ?_
      refine gf_Lm_24 (pc := 24) rfl d_Lm_trialFitsCounted_24 ?_
      refine wh_iload_n (pc := 27) d_Lm_trialFitsCounted_27 rfl rfl ?_
      refine cv_Lm_101_d (pc := 28) (Or.inr rfl) rfl d_Lm_trialFitsCounted_28 ⟨⟨by decide, by decide⟩, rfl, rfl⟩ (s_hasWindow (Or.inr rfl) h6 hw5) (Nat.le_of_ble_eq_true rfl) ?_
      refine wh_if_eq (pc := 31) (tgt := 66) d_Lm_trialFitsCounted_31 (by decide) (fun c_31 => ?_) (fun c_31 => absurd hz c_31)
      refine wh_iinc (pc := 66) (ls2 := [_, _, _]) d_Lm_trialFitsCounted_66 rfl (nI_inc _) (by decide) rfl rfl ?_
      refine wh_goto (pc := 69) (tgt := 2) d_Lm_trialFitsCounted_69 (by decide) ?_
      refine wh_drop (i := 2) (ls2 := [_, _, _]) rfl ?_
      refine ih _ ⟨hfc, hsm, ?_⟩
      show (fitN S (gI h 38) (gI h 39) (gI h 40) i && fitB S (gI h 38) (gI h 39) (gI h 40) i) = true
      rw [hft, fit_z hz]; rfl
    · have hT : laneS (sI g 10 8 (gI h 39 i)) 10 = setS S 5 2 (gI h 39 i) := by rw [lane_s8, simW_set hsm]
      have hG : FC h (fillA (sI g 10 8 (gI h 39 i)) (10 + 7) (owedF (setS S 5 2 (gI h 39 i))) (nW (setS S 5 2 (gI h 39 i)))) := (hfc.tr (fc_sI (by unfold scC; omega))).tr (fc_fill (by unfold scC; omega))
      have e40 : gI (fillA (sI g 10 8 (gI h 39 i)) (10 + 7) (owedF (setS S 5 2 (gI h 39 i))) (nW (setS S 5 2 (gI h 39 i)))) 40 (nI i).toNatClampNeg = gI h 40 i := by rw [hci]; exact hG.2 40 i (by unfold scC; omega)
      have hfb := fit_k (S := S) (W := gI h 38) (C := gI h 39) (T := gI h 40) hwk hk hw5
      refine wh_iload_n (pc := 2) d_Lm_trialFitsCounted_2 rfl rfl ?_
      refine wh_aload_n (pc := 3) d_Lm_trialFitsCounted_3 rfl rfl ?_
      refine gf_Lm_58 (pc := 4) rfl d_Lm_trialFitsCounted_4 ?_
      refine wh_icmp_ge (pc := 7) (tgt := 72) d_Lm_trialFitsCounted_7 (by decide) (fun c_7 => absurd c_7 (by rw [hc0]; exact nI_ge hi (by omega))) (fun c_7 => ?_)
      refine wh_iload_n (pc := 10) d_Lm_trialFitsCounted_10 rfl rfl ?_
      refine wh_bipush (pc := 11) (v := 6) d_Lm_trialFitsCounted_11 (by decide) ?_
      refine wh_icmp_ge (pc := 13) (tgt := 72) d_Lm_trialFitsCounted_13 (by decide) (fun c_13 => absurd c_13 (nI_ge (show i < 6 by omega) (by decide))) (fun c_13 => ?_)
      refine wh_aload_n (pc := 16) d_Lm_trialFitsCounted_16 rfl rfl ?_
      refine gf_Lm_49 (pc := 17) rfl d_Lm_trialFitsCounted_17 ?_
      refine wh_iload_n (pc := 20) d_Lm_trialFitsCounted_20 rfl rfl ?_
      refine wh_iald (pc := 21) d_Lm_trialFitsCounted_21 rfl (in_nI (by omega) (by omega)) ?_
      rw [e38, hwk]
      refine wh_istore_n (pc := 22) (ls2 := [_, _, _]) d_Lm_trialFitsCounted_22 rfl (by decide) rfl rfl ?_
      refine wh_aload_n (pc := 23) d_Lm_trialFitsCounted_23 rfl rfl ?_
      refine gf_Lm_24 (pc := 24) rfl d_Lm_trialFitsCounted_24 ?_
      refine wh_iload_n (pc := 27) d_Lm_trialFitsCounted_27 rfl rfl ?_
      refine cv_Lm_101_d (pc := 28) (Or.inr rfl) rfl d_Lm_trialFitsCounted_28 ⟨⟨by decide, by decide⟩, rfl, rfl⟩ (s_hasWindow (Or.inr rfl) h6 hw5) (Nat.le_of_ble_eq_true rfl) ?_
      refine wh_if_eq (pc := 31) (tgt := 66) d_Lm_trialFitsCounted_31 (by decide) (fun c_31 => absurd c_31 (bI_k hk (by omega))) (fun c_31 => ?_)
      refine wh_aload_n (pc := 34) d_Lm_trialFitsCounted_34 rfl rfl ?_
      refine gf_Lm_24 (pc := 35) rfl d_Lm_trialFitsCounted_35 ?_
      refine wh_aload_n (pc := 38) d_Lm_trialFitsCounted_38 rfl rfl ?_
      refine gf_Lm_52 (pc := 39) rfl d_Lm_trialFitsCounted_39 ?_
      refine wh_iload_n (pc := 42) d_Lm_trialFitsCounted_42 rfl rfl ?_
      refine wh_iald (pc := 43) d_Lm_trialFitsCounted_43 rfl (in_nI (by omega) (by omega)) ?_
      rw [e39]
      refine pf_Lm_82 (pc := 44) (Or.inr rfl) rfl d_Lm_trialFitsCounted_44 ?_
      refine wh_aload_n (pc := 47) d_Lm_trialFitsCounted_47 rfl rfl ?_
      refine gf_Lm_24 (pc := 48) rfl d_Lm_trialFitsCounted_48 ?_
      refine wh_iload_n (pc := 51) d_Lm_trialFitsCounted_51 rfl rfl ?_
      refine cv_Lm_114_d (pc := 52) (Or.inr rfl) rfl d_Lm_trialFitsCounted_52 ⟨⟨by decide, by decide⟩, rfl, rfl⟩ (s_owedBy (Or.inr rfl) hT (wf_set5 hF (by decide)) (by rw [nW_set (by omega)]; exact hk)) (Nat.le_of_ble_eq_true rfl) ?_
      refine wh_aload_n (pc := 55) d_Lm_trialFitsCounted_55 rfl rfl ?_
      refine gf_Lm_55 (pc := 56) rfl d_Lm_trialFitsCounted_56 ?_
      refine wh_iload_n (pc := 59) d_Lm_trialFitsCounted_59 rfl rfl ?_
      refine wh_iald (pc := 60) d_Lm_trialFitsCounted_60 rfl (in_nI (by omega) (by omega)) ?_
      rw [e40]
      refine wh_icmp_eq (pc := 61) (tgt := 66) d_Lm_trialFitsCounted_61 (by decide) (fun c_61 => ?_) (fun c_61 => ?_)
      · refine wh_iinc (pc := 66) (ls2 := [_, _, _]) d_Lm_trialFitsCounted_66 rfl (nI_inc _) (by decide) rfl rfl ?_
        refine wh_goto (pc := 69) (tgt := 2) d_Lm_trialFitsCounted_69 (by decide) ?_
        refine wh_drop (i := 2) (ls2 := [_, _, _]) rfl ?_
        refine ih _ ⟨hG, ?_, ?_⟩
        · rw [lane_dues, hT]; exact simW_of _ _
        · show (fitN S (gI h 38) (gI h 39) (gI h 40) i && fitB S (gI h 38) (gI h 39) (gI h 40) i) = true
          rw [hft, hfb, c_61]; simp
      · refine wh_iconst (pc := 64) (v := 0) d_Lm_trialFitsCounted_64 (by decide) ?_
        refine wh_zret (pc := 65) d_Lm_trialFitsCounted_65 rfl rfl ?_
        refine ⟨_, rfl, hG, ?_, ?_⟩
        · rw [lane_dues, hT]; exact simW_of _ _
        · rw [fit_no (i := i) (by rw [hfb]; simpa using c_61) nc hi]; rfl
theorem c_honeys {l : Launch} {D : va_G} {base : Nat} {h : Hp} (hr : Rel h) : SI l D base M_Lm_honeys [.ref 0] h (fun g x => FC h g ∧ x = honF h) := by
  refine SP.of [some (.ref 0), none, none] (by decide) rfl (Nat.le_of_ble_eq_true rfl) ?_
  obtain ⟨hSt, hF⟩ := hr.street
  have hw5 := hF.1.1
  have hm6 := hF.2.1.1
  obtain ⟨nc, ⟨h6n, hn, -⟩, -⟩ : R_ct h := by obtain ⟨n, m, r1, r2, r3, r4, r5, r6, r7⟩ := hr; exact r5
  have hcn : (gI h 0 12).toNatClampNeg = nc := by rw [hn]; exact cl_nI (by omega)
  have hlc := lane_cp hw5 hm6
  refine wh_aload_n (pc := 0) d_Lm_honeys_0 rfl rfl ?_
  refine gf_Lm_24 (pc := 1) rfl d_Lm_honeys_1 ?_
  refine wh_aload_n (pc := 4) d_Lm_honeys_4 rfl rfl ?_
  refine gf_Lm_20 (pc := 5) rfl d_Lm_honeys_5 ?_
  refine cv_Lm_72_d (pc := 8) (Or.inr rfl) rfl d_Lm_honeys_8 ⟨⟨by decide, by decide⟩, rfl, rfl⟩ (s_copy (Or.inr rfl) (Or.inl rfl) (by decide)) (Nat.le_of_ble_eq_true rfl) ?_
  refine wh_iconst (pc := 11) (v := 0) d_Lm_honeys_11 (by decide) ?_
  refine wh_istore_n (pc := 12) (ls2 := [_, _, _]) d_Lm_honeys_12 rfl (by decide) rfl rfl ?_
  refine wh_iconst (pc := 13) (v := 0) d_Lm_honeys_13 (by decide) ?_
  refine wh_istore_n (pc := 14) (ls2 := [_, _, _]) d_Lm_honeys_14 rfl (by decide) rfl rfl ?_
  refine wh_loopR 10 (fun i => [some (.ref 0), some (.int (orN (fun a => fitN (setS (laneS h 2) 5 3 (nI a)) (gI h 38) (gI h 39) (gI h 40) nc) i)), some (.int (nI i))]) (fun i g => FC h g ∧ simH (laneS g 10) (laneS h 2)) ?_ ?_ 0 _ (Nat.zero_le _) ⟨fc_cp, by rw [hlc]; exact fun _ _ _ => rfl⟩
  · intro g hI
    refine wh_iload_n (pc := 15) d_Lm_honeys_15 rfl rfl ?_
    refine wh_bipush (pc := 16) (v := 9) d_Lm_honeys_16 (by decide) ?_
    refine wh_icmp_gt (pc := 18) (tgt := 48) d_Lm_honeys_18 (by decide) (fun c_18 => ?_) (fun c_18 => absurd (by decide) c_18)
    refine wh_iload_n (pc := 48) d_Lm_honeys_48 rfl rfl ?_
    refine wh_iret (pc := 49) d_Lm_honeys_49 rfl ?_
    exact ⟨_, rfl, hI.1, by unfold honF; rw [hcn]⟩
  · intro i g hi hI ih
    obtain ⟨hfc, hsm⟩ := hI
    have hs9 : simW (laneS (sI g 10 9 (nI i)) 10) (setS (laneS h 2) 5 3 (nI i)) := by rw [lane_s9]; exact simH_W hsm _
    have hf9 : FC h (sI g 10 9 (nI i)) := hfc.tr (fc_sI (by unfold scC; omega))
    have hn9 : gI (sI g 10 9 (nI i)) 0 12 = nI nc := (hf9.2 0 12 (by unfold scC; omega)).trans hn
    have efit : fitN (setS (laneS h 2) 5 3 (nI i)) (gI (sI g 10 9 (nI i)) 38) (gI (sI g 10 9 (nI i)) 39) (gI (sI g 10 9 (nI i)) 40) nc = fitN (setS (laneS h 2) 5 3 (nI i)) (gI h 38) (gI h 39) (gI h 40) nc := fit_congr nc (fun j _ => ⟨hf9.2 38 j (by unfold scC; omega), hf9.2 39 j (by unfold scC; omega), hf9.2 40 j (by unfold scC; omega)⟩)
    refine wh_iload_n (pc := 15) d_Lm_honeys_15 rfl rfl ?_
    refine wh_bipush (pc := 16) (v := 9) d_Lm_honeys_16 (by decide) ?_
    refine wh_icmp_gt (pc := 18) (tgt := 48) d_Lm_honeys_18 (by decide) (fun c_18 => absurd c_18 (nI_nlt (show i ≤ 9 by omega) (by decide))) (fun c_18 => ?_)
    refine wh_aload_n (pc := 21) d_Lm_honeys_21 rfl rfl ?_
    refine gf_Lm_24 (pc := 22) rfl d_Lm_honeys_22 ?_
    refine wh_iload_n (pc := 25) d_Lm_honeys_25 rfl rfl ?_
    refine pf_Lm_85 (pc := 26) (Or.inr rfl) rfl d_Lm_honeys_26 ?_
    refine wh_aload_n (pc := 29) d_Lm_honeys_29 rfl rfl ?_
    refine cv_Lm_211_i (pc := 30) rfl d_Lm_honeys_30 ⟨⟨by decide, by decide⟩, rfl, rfl⟩ (c_fits hs9 (wf_set5 hF (by decide)) hn9 h6n) (Nat.le_of_ble_eq_true rfl) (fun h_30 x_30 e_30 => ?_)
    refine wh_if_eq (pc := 33) (tgt := 42) d_Lm_honeys_33 (by decide) (fun c_33 => ?_) (fun c_33 => ?_)
    · refine wh_iinc (pc := 42) (ls2 := [_, _, _]) d_Lm_honeys_42 rfl (nI_inc _) (by decide) rfl rfl ?_
      refine wh_goto (pc := 45) (tgt := 15) d_Lm_honeys_45 (by decide) ?_
      rw [e_30.2.2, efit, t01] at c_33
      refine wh_eq (ih _ ⟨hf9.tr e_30.1, simW_H e_30.2.1⟩) ?_ rfl rfl
      have es : orN (fun a => fitN (setS (laneS h 2) 5 3 (nI a)) (gI h 38) (gI h 39) (gI h 40) nc) (i + 1) = (if fitN (setS (laneS h 2) 5 3 (nI i)) (gI h 38) (gI h 39) (gI h 40) nc then orN (fun a => fitN (setS (laneS h 2) 5 3 (nI a)) (gI h 38) (gI h 39) (gI h 40) nc) i ||| (1 <<< (nI i &&& 31)) else orN (fun a => fitN (setS (laneS h 2) 5 3 (nI a)) (gI h 38) (gI h 39) (gI h 40) nc) i) := rfl
      rw [es]
      first | (rw [c_33]; rfl) | (rw [show fitN (setS (laneS h 2) 5 3 (nI i)) (gI h 38) (gI h 39) (gI h 40) nc = true by simpa using c_33]; rfl)
    · refine wh_iload_n (pc := 36) d_Lm_honeys_36 rfl rfl ?_
      refine wh_iconst (pc := 37) (v := 1) d_Lm_honeys_37 (by decide) ?_
      refine wh_iload_n (pc := 38) d_Lm_honeys_38 rfl rfl ?_
      refine wh_ishl (pc := 39) d_Lm_honeys_39 ?_
      refine wh_ior (pc := 40) d_Lm_honeys_40 ?_
      refine wh_istore_n (pc := 41) (ls2 := [_, _, _]) d_Lm_honeys_41 rfl (by decide) rfl rfl ?_
      refine wh_iinc (pc := 42) (ls2 := [_, _, _]) d_Lm_honeys_42 rfl (nI_inc _) (by decide) rfl rfl ?_
      refine wh_goto (pc := 45) (tgt := 15) d_Lm_honeys_45 (by decide) ?_
      rw [e_30.2.2, efit, t01] at c_33
      refine wh_eq (ih _ ⟨hf9.tr e_30.1, simW_H e_30.2.1⟩) ?_ rfl rfl
      have es : orN (fun a => fitN (setS (laneS h 2) 5 3 (nI a)) (gI h 38) (gI h 39) (gI h 40) nc) (i + 1) = (if fitN (setS (laneS h 2) 5 3 (nI i)) (gI h 38) (gI h 39) (gI h 40) nc then orN (fun a => fitN (setS (laneS h 2) 5 3 (nI a)) (gI h 38) (gI h 39) (gI h 40) nc) i ||| (1 <<< (nI i &&& 31)) else orN (fun a => fitN (setS (laneS h 2) 5 3 (nI a)) (gI h 38) (gI h 39) (gI h 40) nc) i) := rfl
      rw [es]
      first | (rw [c_33]; rfl) | (rw [show fitN (setS (laneS h 2) 5 3 (nI i)) (gI h 38) (gI h 39) (gI h 40) nc = true by simpa using c_33]; rfl)
theorem r_honeys {l : Launch} {D : va_G} {base : Nat} {h : Hp} (hr : Rel h) : SI l D base M_Md_honeys [.ref 42] h (fun g x => FM h g ∧ x = honF h) := by
  refine SP.of [some (.ref 42), none, none, none, none] (by decide) rfl (Nat.le_of_ble_eq_true rfl) ?_
  obtain ⟨hSt, hF⟩ := hr.street
  have hw5 := hF.1.1
  have hm6 := hF.2.1.1
  have hF8 : WFS (pageS h 48) := by rw [← hSt]; exact hF
  have hP0 : pageS (sI h 42 0 0) 48 = pageS h 48 := fm_page fm_thr
  have hw := hr.w
  obtain ⟨nc, ⟨h6n, hn0, hn⟩, hrc⟩ : R_ct h := by obtain ⟨n, m, r1, r2, r3, r4, r5, r6, r7⟩ := hr; exact r5
  have hcn : (gI h 0 12).toNatClampNeg = nc := by rw [hn0]; exact cl_nI (by omega)
  rw [hSt] at hw5 hm6
  have eF : honF h = orN (fun a => fitN (setS (pageS h 48) 5 3 (nI a)) (gI h 53) (gI h 54) (gI h 55) nc) 10 := by
    unfold honF
    rw [hcn, hSt]
    exact or_congr 10 (fun a _ => fit_congr nc (fun i hi => hrc i hi))
  refine wh_aload_n (pc := 0) d_Md_honeys_0 rfl rfl ?_
  refine wh_iconst (pc := 1) (v := 0) d_Md_honeys_1 (by decide) ?_
  refine pf_Md_62 (pc := 2) rfl d_Md_honeys_2 ?_
  refine wh_iconst (pc := 5) (v := 0) d_Md_honeys_5 (by decide) ?_
  refine wh_istore_n (pc := 6) (ls2 := [_, _, _, _, _]) d_Md_honeys_6 rfl (by decide) rfl rfl ?_
  refine wh_iconst (pc := 7) (v := 0) d_Md_honeys_7 (by decide) ?_
  refine wh_istore_n (pc := 8) (ls2 := [_, _, _, _, _]) d_Md_honeys_8 rfl (by decide) rfl rfl ?_
  refine wh_loopR 10 (fun i => [some (.ref 42), some (.int (orN (fun a => fitN (setS (pageS h 48) 5 3 (nI a)) (gI h 53) (gI h 54) (gI h 55) nc) i)), some (.int (nI i)), none, none]) (fun i g => FM h g) ?_ ?_ 0 _ (Nat.zero_le _) fm_thr
  · intro g hI
    refine wh_iload_n (pc := 9) d_Md_honeys_9 rfl rfl ?_
    refine wh_bipush (pc := 10) (v := 10) d_Md_honeys_10 (by decide) ?_
    refine wh_icmp_ge (pc := 12) (tgt := 136) d_Md_honeys_12 (by decide) (fun c_12 => ?_) (fun c_12 => absurd (by decide) c_12)
    refine wh_iload_n (pc := 136) d_Md_honeys_136 rfl rfl ?_
    refine wh_iret (pc := 137) d_Md_honeys_137 rfl ?_
    exact ⟨_, rfl, hI, by rw [eF]⟩
  · intro i g hi hI ih
    refine wh_iload_n (pc := 9) d_Md_honeys_9 rfl rfl ?_
    refine wh_bipush (pc := 10) (v := 10) d_Md_honeys_10 (by decide) ?_
    refine wh_icmp_ge (pc := 12) (tgt := 136) d_Md_honeys_12 (by decide) (fun c_12 => absurd c_12 (nI_ge hi (by decide))) (fun c_12 => ?_)
    refine wh_iconst (pc := 15) (v := 1) d_Md_honeys_15 (by decide) ?_
    refine wh_istore_n (pc := 16) (ls2 := [_, _, _, _, _]) d_Md_honeys_16 rfl (by decide) rfl rfl ?_
    refine wh_iconst (pc := 17) (v := 0) d_Md_honeys_17 (by decide) ?_
    refine wh_istore (pc := 18) (ls2 := [_, _, _, _, _]) d_Md_honeys_18 (by decide) rfl rfl ?_
    refine wh_eq (wh_loopR nc (fun q => [some (.ref 42), some (.int (orN (fun a => fitN (setS (pageS h 48) 5 3 (nI a)) (gI h 53) (gI h 54) (gI h 55) nc) i)), some (.int (nI i)), some (.int (if fitN (setS (pageS h 48) 5 3 (nI i)) (gI h 53) (gI h 54) (gI h 55) q then 1 else 0)), some (.int (nI q))]) (fun q g => FM h g) ?_ ?_ 0 g (Nat.zero_le _) hI) rfl rfl rfl
    · intro g hfm
      have hc20 : gI g 42 20 = nI nc := (hfm.2 42 20 (by unfold scM; omega)).trans hn
      refine wh_iload (pc := 20) d_Md_honeys_20 rfl ?_
      refine wh_aload_n (pc := 22) d_Md_honeys_22 rfl rfl ?_
      refine gf_Md_154 (pc := 23) rfl d_Md_honeys_23 ?_
      refine wh_icmp_ge (pc := 26) (tgt := 116) d_Md_honeys_26 (by decide) (fun c_26 => ?_) (fun c_26 => absurd (by rw [hc20]; exact nI_le (Nat.le_refl _) (by omega)) c_26)
      refine wh_iload_n (pc := 116) d_Md_honeys_116 rfl rfl ?_
      refine wh_iload_n (pc := 117) d_Md_honeys_117 rfl rfl ?_
      refine wh_if_eq (pc := 118) (tgt := 127) d_Md_honeys_118 (by decide) (fun c_118 => ?_) (fun c_118 => ?_)
      · refine wh_iconst (pc := 127) (v := 0) d_Md_honeys_127 (by decide) ?_
        refine wh_ior (pc := 128) d_Md_honeys_128 ?_
        refine wh_istore_n (pc := 129) (ls2 := [_, _, _, _, _]) d_Md_honeys_129 rfl (by decide) rfl rfl ?_
        refine wh_iinc (pc := 130) (ls2 := [_, _, _, _, _]) d_Md_honeys_130 rfl (nI_inc _) (by decide) rfl rfl ?_
        refine wh_goto (pc := 133) (tgt := 9) d_Md_honeys_133 (by decide) ?_
        refine wh_drop (i := 3) (ls2 := [_, _, _, _, _]) rfl ?_
        refine wh_drop (i := 4) (ls2 := [_, _, _, _, _]) rfl ?_
        rw [t01] at c_118
        refine wh_eq (ih _ hfm) ?_ rfl rfl
        have es : orN (fun a => fitN (setS (pageS h 48) 5 3 (nI a)) (gI h 53) (gI h 54) (gI h 55) nc) (i + 1) = (if fitN (setS (pageS h 48) 5 3 (nI i)) (gI h 53) (gI h 54) (gI h 55) nc then orN (fun a => fitN (setS (pageS h 48) 5 3 (nI a)) (gI h 53) (gI h 54) (gI h 55) nc) i ||| (1 <<< (nI i &&& 31)) else orN (fun a => fitN (setS (pageS h 48) 5 3 (nI a)) (gI h 53) (gI h 54) (gI h 55) nc) i) := rfl
        rw [es]
        first | (rw [c_118, Int32.or_zero]; rfl) | (rw [show fitN (setS (pageS h 48) 5 3 (nI i)) (gI h 53) (gI h 54) (gI h 55) nc = true by simpa using c_118]; rfl)
      · refine wh_iconst (pc := 121) (v := 1) d_Md_honeys_121 (by decide) ?_
        refine wh_iload_n (pc := 122) d_Md_honeys_122 rfl rfl ?_
        refine wh_ishl (pc := 123) d_Md_honeys_123 ?_
        refine wh_goto (pc := 124) (tgt := 128) d_Md_honeys_124 (by decide) ?_
        refine wh_ior (pc := 128) d_Md_honeys_128 ?_
        refine wh_istore_n (pc := 129) (ls2 := [_, _, _, _, _]) d_Md_honeys_129 rfl (by decide) rfl rfl ?_
        refine wh_iinc (pc := 130) (ls2 := [_, _, _, _, _]) d_Md_honeys_130 rfl (nI_inc _) (by decide) rfl rfl ?_
        refine wh_goto (pc := 133) (tgt := 9) d_Md_honeys_133 (by decide) ?_
        refine wh_drop (i := 3) (ls2 := [_, _, _, _, _]) rfl ?_
        refine wh_drop (i := 4) (ls2 := [_, _, _, _, _]) rfl ?_
        rw [t01] at c_118
        refine wh_eq (ih _ hfm) ?_ rfl rfl
        have es : orN (fun a => fitN (setS (pageS h 48) 5 3 (nI a)) (gI h 53) (gI h 54) (gI h 55) nc) (i + 1) = (if fitN (setS (pageS h 48) 5 3 (nI i)) (gI h 53) (gI h 54) (gI h 55) nc then orN (fun a => fitN (setS (pageS h 48) 5 3 (nI a)) (gI h 53) (gI h 54) (gI h 55) nc) i ||| (1 <<< (nI i &&& 31)) else orN (fun a => fitN (setS (pageS h 48) 5 3 (nI a)) (gI h 53) (gI h 54) (gI h 55) nc) i) := rfl
        rw [es]
        first | (rw [c_118, Int32.or_zero]; rfl) | (rw [show fitN (setS (pageS h 48) 5 3 (nI i)) (gI h 53) (gI h 54) (gI h 55) nc = true by simpa using c_118]; rfl)
    · intro q g hq hfm ih2
      have hcq := cl_nI (show q < 2 ^ 31 by omega)
      have hgS : pageS g 48 = (pageS h 48) := fm_page hfm
      have hB : pageS (bgH g) 49 = (pageS h 48) := by rw [page_bg (by rw [hgS]; exact hw5) (by rw [hgS]; exact hm6), hgS]
      have hB7 : pageS (sI (bgH g) 49 17 (nI i)) 49 = (setS (pageS h 48) 5 3 (nI i)) := by rw [page_s17 (by rw [hB]; exact hw5) (by rw [hB]; exact hm6), hB]
      have hT : pageS (sI (sI (bgH g) 49 17 (nI i)) 49 16 (gI h 54 q)) 49 = (setS (setS (pageS h 48) 5 3 (nI i)) 5 2 (gI h 54 q)) := by rw [page_s16 (by rw [hB7, nW_set (by omega)]; exact hw5) (by rw [hB7, nM_set (by omega)]; exact hm6), hB7]
      have hTF : WFS (setS (setS (pageS h 48) 5 3 (nI i)) 5 2 (gI h 54 q)) := wf_set5 (wf_set5 hF8 (by decide)) (by decide)
      have hc20 : gI g 42 20 = nI nc := (hfm.2 42 20 (by unfold scM; omega)).trans hn
      have hL : FM h (layH (sI (sI (bgH g) 49 17 (nI i)) 49 16 (gI h 54 q)) 49) := (((hfm.tr fm_bg).tr (fm_sI (by unfold scM; omega))).tr (fm_sI (by unfold scM; omega))).tr fm_lay
      have e54 : gI (sI (bgH g) 49 17 (nI i)) 54 (nI q).toNatClampNeg = gI h 54 q := by rw [hcq]; exact ((hfm.tr fm_bg).tr (fm_sI (by unfold scM; omega))).2 54 q (by unfold scM; omega)
      have e53 : gI (layH (sI (sI (bgH g) 49 17 (nI i)) 49 16 (gI h 54 q)) 49) 53 (nI q).toNatClampNeg = gI h 53 q := by rw [hcq]; exact hL.2 53 q (by unfold scM; omega)
      have e55 : gI (layH (sI (sI (bgH g) 49 17 (nI i)) 49 16 (gI h 54 q)) 49) 55 (nI q).toNatClampNeg = gI h 55 q := by rw [hcq]; exact hL.2 55 q (by unfold scM; omega)
      have h4L : gI (layH (sI (sI (bgH g) 49 17 (nI i)) 49 16 (gI h 54 q)) 49) 42 4 = nI (nW (pageS h 48)) := (hL.2 42 4 (by unfold scM; omega)).trans (pf_w hF8)
      have hnA : nW (setS (pageS h 48) 5 3 (nI i)) = nW (pageS h 48) := nW_set (by omega)
      rcases bI_two (w := gI h 53 q) (n := nW (pageS h 48)) (by omega) with hz | ⟨k, hk, hwk⟩
      · have hfb : fitB (setS (pageS h 48) 5 3 (nI i)) (gI h 53) (gI h 54) (gI h 55) q = true := fit_z (by rw [hnA]; exact hz)
        refine wh_iload (pc := 20) d_Md_honeys_20 rfl ?_
        refine wh_aload_n (pc := 22) d_Md_honeys_22 rfl rfl ?_
        refine gf_Md_154 (pc := 23) rfl d_Md_honeys_23 ?_
        refine wh_icmp_ge (pc := 26) (tgt := 116) d_Md_honeys_26 (by decide) (fun c_26 => absurd c_26 (by rw [hc20]; exact nI_ge hq (by omega))) (fun c_26 => ?_)
        refine wh_aload_n (pc := 29) d_Md_honeys_29 rfl rfl ?_
        refine cv_Md_180_d (pc := 30) rfl d_Md_honeys_30 ⟨⟨by decide, by decide⟩, rfl, rfl⟩ ((show SD l D base M_Md_begin [.ref 42] g none (bgH g) from m_begin)) (Nat.le_of_ble_eq_true rfl) ?_
        refine wh_aload_n (pc := 33) d_Md_honeys_33 rfl rfl ?_
        refine gf_Md_28 (pc := 34) rfl d_Md_honeys_34 ?_
        refine wh_bipush (pc := 37) (v := 17) d_Md_honeys_37 (by decide) ?_
        refine wh_iload_n (pc := 39) d_Md_honeys_39 rfl rfl ?_
        refine wh_iast (pc := 40) d_Md_honeys_40 rfl (in_nI (k := 17) (by decide) (by decide)) ?_
        rw [show Int32.toNatClampNeg 17 = 17 from rfl]
        refine wh_aload_n (pc := 41) d_Md_honeys_41 rfl rfl ?_
        refine gf_Md_28 (pc := 42) rfl d_Md_honeys_42 ?_
        refine wh_bipush (pc := 45) (v := 16) d_Md_honeys_45 (by decide) ?_
        refine wh_aload_n (pc := 47) d_Md_honeys_47 rfl rfl ?_
        refine gf_Md_44 (pc := 48) rfl d_Md_honeys_48 ?_
        refine wh_iload (pc := 51) d_Md_honeys_51 rfl ?_
        refine wh_iald (pc := 53) d_Md_honeys_53 rfl (by first | exact in_nI (by omega) (by omega) | (simp only [a0, a5, a10, a19]; exact in_nI (by omega) (by omega)) | exact vp_in_iff.mpr (by decide)) ?_
        rw [e54]
        refine wh_iast (pc := 54) d_Md_honeys_54 rfl (in_nI (k := 16) (by decide) (by decide)) ?_
        rw [show Int32.toNatClampNeg 16 = 16 from rfl]
        refine wh_aload_n (pc := 55) d_Md_honeys_55 rfl rfl ?_
        refine wh_aload_n (pc := 56) d_Md_honeys_56 rfl rfl ?_
        refine gf_Md_28 (pc := 57) rfl d_Md_honeys_57 ?_
        refine cv_Md_148_d (pc := 60) rfl d_Md_honeys_60 ⟨⟨by decide, by decide⟩, rfl, rfl⟩ (m_lay (Or.inr rfl) hT hTF) (Nat.le_of_ble_eq_true rfl) ?_
        refine wh_pop (pc := 63) d_Md_honeys_63 rfl ?_
        refine wh_iload_n (pc := 64) d_Md_honeys_64 rfl rfl ?_
        refine wh_if_eq (pc := 65) (tgt := 108) d_Md_honeys_65 (by decide) (fun c_65 => ?_) (fun c_65 => ?_)
        · refine wh_iconst (pc := 108) (v := 0) d_Md_honeys_108 (by decide) ?_
          refine wh_istore_n (pc := 109) (ls2 := [_, _, _, _, _]) d_Md_honeys_109 rfl (by decide) rfl rfl ?_
          refine wh_iinc (pc := 110) (ls2 := [_, _, _, _, _]) d_Md_honeys_110 rfl (nI_inc _) (by decide) rfl rfl ?_
          refine wh_goto (pc := 113) (tgt := 20) d_Md_honeys_113 (by decide) ?_
          refine wh_eq (ih2 _ hL) ?_ rfl rfl
          have es : fitN (setS (pageS h 48) 5 3 (nI i)) (gI h 53) (gI h 54) (gI h 55) (q + 1) = (fitN (setS (pageS h 48) 5 3 (nI i)) (gI h 53) (gI h 54) (gI h 55) q && fitB (setS (pageS h 48) 5 3 (nI i)) (gI h 53) (gI h 54) (gI h 55) q) := rfl
          rw [es]
          rw [t01] at c_65
          rw [hfb]
          first | (rw [c_65]; rfl) | (rw [show fitN (setS (pageS h 48) 5 3 (nI i)) (gI h 53) (gI h 54) (gI h 55) q = true by simpa using c_65]; rfl)
        · refine wh_aload_n (pc := 68) d_Md_honeys_68 rfl rfl ?_
          refine wh_aload_n (pc := 69) d_Md_honeys_69 rfl rfl ?_
          refine gf_Md_41 (pc := 70) rfl d_Md_honeys_70 ?_
          refine wh_iload (pc := 73) d_Md_honeys_73 rfl ?_
          refine wh_iald (pc := 75) d_Md_honeys_75 rfl (by first | exact in_nI (by omega) (by omega) | (simp only [a0, a5, a10, a19]; exact in_nI (by omega) (by omega)) | exact vp_in_iff.mpr (by decide)) ?_
          rw [e53]
          refine cv_Md_157_d (pc := 76) rfl d_Md_honeys_76 ⟨⟨by decide, by decide⟩, rfl, rfl⟩ (m_noW (n := nW (pageS h 48)) h4L (by omega)) (Nat.le_of_ble_eq_true rfl) ?_
          refine wh_if_ne (pc := 79) (tgt := 104) d_Md_honeys_79 (by decide) (fun c_79 => ?_) (fun c_79 => absurd c_79 (bN_n hz))
          refine wh_iconst (pc := 104) (v := 1) d_Md_honeys_104 (by decide) ?_
          refine wh_goto (pc := 105) (tgt := 109) d_Md_honeys_105 (by decide) ?_
          refine wh_istore_n (pc := 109) (ls2 := [_, _, _, _, _]) d_Md_honeys_109 rfl (by decide) rfl rfl ?_
          refine wh_iinc (pc := 110) (ls2 := [_, _, _, _, _]) d_Md_honeys_110 rfl (nI_inc _) (by decide) rfl rfl ?_
          refine wh_goto (pc := 113) (tgt := 20) d_Md_honeys_113 (by decide) ?_
          refine wh_eq (ih2 _ hL) ?_ rfl rfl
          have es : fitN (setS (pageS h 48) 5 3 (nI i)) (gI h 53) (gI h 54) (gI h 55) (q + 1) = (fitN (setS (pageS h 48) 5 3 (nI i)) (gI h 53) (gI h 54) (gI h 55) q && fitB (setS (pageS h 48) 5 3 (nI i)) (gI h 53) (gI h 54) (gI h 55) q) := rfl
          rw [es]
          rw [t01] at c_65
          rw [hfb]
          first | (rw [c_65]; rfl) | (rw [show fitN (setS (pageS h 48) 5 3 (nI i)) (gI h 53) (gI h 54) (gI h 55) q = true by simpa using c_65]; rfl)
      · have hfb := fit_k (S := (setS (pageS h 48) 5 3 (nI i))) (W := gI h 53) (C := gI h 54) (T := gI h 55) hwk (by rw [hnA]; exact hk) (by rw [hnA]; exact hw5)
        have e57 : gI (layH (sI (sI (bgH g) 49 17 (nI i)) 49 16 (gI h 54 q)) 49) 57 (nI k).toNatClampNeg = owedF (setS (setS (pageS h 48) 5 3 (nI i)) 5 2 (gI h 54 q)) k := by rw [cl_nI (by omega), lay_57 (by rw [hT, nW_set (by omega), hnA]; exact hk), hT]
        refine wh_iload (pc := 20) d_Md_honeys_20 rfl ?_
        refine wh_aload_n (pc := 22) d_Md_honeys_22 rfl rfl ?_
        refine gf_Md_154 (pc := 23) rfl d_Md_honeys_23 ?_
        refine wh_icmp_ge (pc := 26) (tgt := 116) d_Md_honeys_26 (by decide) (fun c_26 => absurd c_26 (by rw [hc20]; exact nI_ge hq (by omega))) (fun c_26 => ?_)
        refine wh_aload_n (pc := 29) d_Md_honeys_29 rfl rfl ?_
        refine cv_Md_180_d (pc := 30) rfl d_Md_honeys_30 ⟨⟨by decide, by decide⟩, rfl, rfl⟩ ((show SD l D base M_Md_begin [.ref 42] g none (bgH g) from m_begin)) (Nat.le_of_ble_eq_true rfl) ?_
        refine wh_aload_n (pc := 33) d_Md_honeys_33 rfl rfl ?_
        refine gf_Md_28 (pc := 34) rfl d_Md_honeys_34 ?_
        refine wh_bipush (pc := 37) (v := 17) d_Md_honeys_37 (by decide) ?_
        refine wh_iload_n (pc := 39) d_Md_honeys_39 rfl rfl ?_
        refine wh_iast (pc := 40) d_Md_honeys_40 rfl (in_nI (k := 17) (by decide) (by decide)) ?_
        rw [show Int32.toNatClampNeg 17 = 17 from rfl]
        refine wh_aload_n (pc := 41) d_Md_honeys_41 rfl rfl ?_
        refine gf_Md_28 (pc := 42) rfl d_Md_honeys_42 ?_
        refine wh_bipush (pc := 45) (v := 16) d_Md_honeys_45 (by decide) ?_
        refine wh_aload_n (pc := 47) d_Md_honeys_47 rfl rfl ?_
        refine gf_Md_44 (pc := 48) rfl d_Md_honeys_48 ?_
        refine wh_iload (pc := 51) d_Md_honeys_51 rfl ?_
        refine wh_iald (pc := 53) d_Md_honeys_53 rfl (by first | exact in_nI (by omega) (by omega) | (simp only [a0, a5, a10, a19]; exact in_nI (by omega) (by omega)) | exact vp_in_iff.mpr (by decide)) ?_
        rw [e54]
        refine wh_iast (pc := 54) d_Md_honeys_54 rfl (in_nI (k := 16) (by decide) (by decide)) ?_
        rw [show Int32.toNatClampNeg 16 = 16 from rfl]
        refine wh_aload_n (pc := 55) d_Md_honeys_55 rfl rfl ?_
        refine wh_aload_n (pc := 56) d_Md_honeys_56 rfl rfl ?_
        refine gf_Md_28 (pc := 57) rfl d_Md_honeys_57 ?_
        refine cv_Md_148_d (pc := 60) rfl d_Md_honeys_60 ⟨⟨by decide, by decide⟩, rfl, rfl⟩ (m_lay (Or.inr rfl) hT hTF) (Nat.le_of_ble_eq_true rfl) ?_
        refine wh_pop (pc := 63) d_Md_honeys_63 rfl ?_
        refine wh_iload_n (pc := 64) d_Md_honeys_64 rfl rfl ?_
        refine wh_if_eq (pc := 65) (tgt := 108) d_Md_honeys_65 (by decide) (fun c_65 => ?_) (fun c_65 => ?_)
        · refine wh_iconst (pc := 108) (v := 0) d_Md_honeys_108 (by decide) ?_
          refine wh_istore_n (pc := 109) (ls2 := [_, _, _, _, _]) d_Md_honeys_109 rfl (by decide) rfl rfl ?_
          refine wh_iinc (pc := 110) (ls2 := [_, _, _, _, _]) d_Md_honeys_110 rfl (nI_inc _) (by decide) rfl rfl ?_
          refine wh_goto (pc := 113) (tgt := 20) d_Md_honeys_113 (by decide) ?_
          refine wh_eq (ih2 _ hL) ?_ rfl rfl
          have es : fitN (setS (pageS h 48) 5 3 (nI i)) (gI h 53) (gI h 54) (gI h 55) (q + 1) = (fitN (setS (pageS h 48) 5 3 (nI i)) (gI h 53) (gI h 54) (gI h 55) q && fitB (setS (pageS h 48) 5 3 (nI i)) (gI h 53) (gI h 54) (gI h 55) q) := rfl
          rw [es]
          rw [t01] at c_65
          rw [hfb]
          first
            | (rw [c_65]; rfl)
            | (rw [show fitN (setS (pageS h 48) 5 3 (nI i)) (gI h 53) (gI h 54) (gI h 55) q = true by simpa using c_65, c_101]; simp; done)
            | (rw [show decide (owedF (setS (setS (pageS h 48) 5 3 (nI i)) 5 2 (gI h 54 q)) k = gI h 55 q) = false by simpa using c_101]; simp; done)
        · refine wh_aload_n (pc := 68) d_Md_honeys_68 rfl rfl ?_
          refine wh_aload_n (pc := 69) d_Md_honeys_69 rfl rfl ?_
          refine gf_Md_41 (pc := 70) rfl d_Md_honeys_70 ?_
          refine wh_iload (pc := 73) d_Md_honeys_73 rfl ?_
          refine wh_iald (pc := 75) d_Md_honeys_75 rfl (by first | exact in_nI (by omega) (by omega) | (simp only [a0, a5, a10, a19]; exact in_nI (by omega) (by omega)) | exact vp_in_iff.mpr (by decide)) ?_
          rw [e53, hwk]
          refine cv_Md_157_d (pc := 76) rfl d_Md_honeys_76 ⟨⟨by decide, by decide⟩, rfl, rfl⟩ (m_noW (n := nW (pageS h 48)) h4L (by omega)) (Nat.le_of_ble_eq_true rfl) ?_
          refine wh_if_ne (pc := 79) (tgt := 104) d_Md_honeys_79 (by decide) (fun c_79 => absurd (bN_k hk (by omega)) c_79) (fun c_79 => ?_)
          refine wh_aload_n (pc := 82) d_Md_honeys_82 rfl rfl ?_
          refine gf_Md_53 (pc := 83) rfl d_Md_honeys_83 ?_
          refine wh_aload_n (pc := 86) d_Md_honeys_86 rfl rfl ?_
          refine gf_Md_41 (pc := 87) rfl d_Md_honeys_87 ?_
          refine wh_iload (pc := 90) d_Md_honeys_90 rfl ?_
          refine wh_iald (pc := 92) d_Md_honeys_92 rfl (by first | exact in_nI (by omega) (by omega) | (simp only [a0, a5, a10, a19]; exact in_nI (by omega) (by omega)) | exact vp_in_iff.mpr (by decide)) ?_
          rw [e53, hwk]
          refine wh_iald (pc := 93) d_Md_honeys_93 rfl (by first | exact in_nI (by omega) (by omega) | (simp only [a0, a5, a10, a19]; exact in_nI (by omega) (by omega)) | exact vp_in_iff.mpr (by decide)) ?_
          refine wh_aload_n (pc := 94) d_Md_honeys_94 rfl rfl ?_
          refine gf_Md_47 (pc := 95) rfl d_Md_honeys_95 ?_
          refine wh_iload (pc := 98) d_Md_honeys_98 rfl ?_
          refine wh_iald (pc := 100) d_Md_honeys_100 rfl (by first | exact in_nI (by omega) (by omega) | (simp only [a0, a5, a10, a19]; exact in_nI (by omega) (by omega)) | exact vp_in_iff.mpr (by decide)) ?_
          rw [e57, e55]
          refine wh_icmp_ne (pc := 101) (tgt := 108) d_Md_honeys_101 (by decide) (fun c_101 => ?_) (fun c_101 => ?_)
          · refine wh_iconst (pc := 108) (v := 0) d_Md_honeys_108 (by decide) ?_
            refine wh_istore_n (pc := 109) (ls2 := [_, _, _, _, _]) d_Md_honeys_109 rfl (by decide) rfl rfl ?_
            refine wh_iinc (pc := 110) (ls2 := [_, _, _, _, _]) d_Md_honeys_110 rfl (nI_inc _) (by decide) rfl rfl ?_
            refine wh_goto (pc := 113) (tgt := 20) d_Md_honeys_113 (by decide) ?_
            refine wh_eq (ih2 _ hL) ?_ rfl rfl
            have es : fitN (setS (pageS h 48) 5 3 (nI i)) (gI h 53) (gI h 54) (gI h 55) (q + 1) = (fitN (setS (pageS h 48) 5 3 (nI i)) (gI h 53) (gI h 54) (gI h 55) q && fitB (setS (pageS h 48) 5 3 (nI i)) (gI h 53) (gI h 54) (gI h 55) q) := rfl
            rw [es]
            rw [t01] at c_65
            rw [hfb]
            first
              | (rw [c_65]; rfl)
              | (rw [show fitN (setS (pageS h 48) 5 3 (nI i)) (gI h 53) (gI h 54) (gI h 55) q = true by simpa using c_65, c_101]; simp; done)
              | (rw [show decide (owedF (setS (setS (pageS h 48) 5 3 (nI i)) 5 2 (gI h 54 q)) k = gI h 55 q) = false by simpa using c_101]; simp; done)
          · refine wh_iconst (pc := 104) (v := 1) d_Md_honeys_104 (by decide) ?_
            refine wh_goto (pc := 105) (tgt := 109) d_Md_honeys_105 (by decide) ?_
            refine wh_istore_n (pc := 109) (ls2 := [_, _, _, _, _]) d_Md_honeys_109 rfl (by decide) rfl rfl ?_
            refine wh_iinc (pc := 110) (ls2 := [_, _, _, _, _]) d_Md_honeys_110 rfl (nI_inc _) (by decide) rfl rfl ?_
            refine wh_goto (pc := 113) (tgt := 20) d_Md_honeys_113 (by decide) ?_
            refine wh_eq (ih2 _ hL) ?_ rfl rfl
            have es : fitN (setS (pageS h 48) 5 3 (nI i)) (gI h 53) (gI h 54) (gI h 55) (q + 1) = (fitN (setS (pageS h 48) 5 3 (nI i)) (gI h 53) (gI h 54) (gI h 55) q && fitB (setS (pageS h 48) 5 3 (nI i)) (gI h 53) (gI h 54) (gI h 55) q) := rfl
            rw [es]
            rw [t01] at c_65
            rw [hfb]
            first
              | (rw [c_65]; rfl)
              | (rw [show fitN (setS (pageS h 48) 5 3 (nI i)) (gI h 53) (gI h 54) (gI h 55) q = true by simpa using c_65, c_101]; simp; done)
              | (rw [show decide (owedF (setS (setS (pageS h 48) 5 3 (nI i)) 5 2 (gI h 54 q)) k = gI h 55 q) = false by simpa using c_101]; simp; done)
theorem x_honeys {l : Launch} {D : va_G} {base : Nat} : CMD l D base M_Lm_honeys M_Md_honeys [] := CMD.q (fun h => honF h) (fun h h' f _ => by
  unfold honF
  rw [fc_lane f, f.2 0 12 (by unfold scC; omega)]
  exact or_congr 10 (fun a _ => fit_congr _ (fun i _ => ⟨f.2 38 i (by unfold scC; omega), f.2 39 i (by unfold scC; omega), f.2 40 i (by unfold scC; omega)⟩))) (fun h hr => c_honeys hr) (fun h hr => r_honeys hr)

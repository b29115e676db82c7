def freeB (S : St) (x : Int32) : Bool := anyN (fun q => decide (S 0 q = x)) (nW S)
def mvP (S : St) (w : Nat) (a : Int32 × Int32) : Nat → Int32 × Int32
  | 0 => a
  | p + 1 => if freeB S (nI p) = false ∧ ((mvP S w a p).2 = -9 ∨ allF (setS S 0 w (nI p)) < (mvP S w a p).2) then (10 * nI w + nI p, allF (setS S 0 w (nI p))) else mvP S w a p
def mvN (S : St) : Nat → Int32 × Int32
  | 0 => (-9, -9)
  | w + 1 => mvP S w (mvN S w) 9
theorem m10 (a k : Nat) : (10 : Int32) * nI a + nI k = nI (10 * a + k) := by rw [show (10 : Int32) = nI 10 from rfl, pk_mul, nI_add]
theorem mvP_9 {S : St} (hF : WFS S) {w : Nat} (hw : w < 5) {a : Int32 × Int32} (ha : a.2 = -9 ↔ a.1 = -9) : ∀ p, p ≤ 9 → ((mvP S w a p).2 = -9 ↔ (mvP S w a p).1 = -9)
  | 0, _ => ha
  | p + 1, hp => by
    have ih := mvP_9 hF hw ha p (by omega)
    have h1 := nW_set (S := S) (r := 0) (k := w) (x := nI p) (by omega)
    have h2 := nM_set (S := S) (r := 0) (k := w) (x := nI p) (by omega)
    show (if freeB S (nI p) = false ∧ ((mvP S w a p).2 = -9 ∨ allF (setS S 0 w (nI p)) < (mvP S w a p).2) then (10 * nI w + nI p, allF (setS S 0 w (nI p))) else mvP S w a p).2 = -9 ↔ (if freeB S (nI p) = false ∧ ((mvP S w a p).2 = -9 ∨ allF (setS S 0 w (nI p)) < (mvP S w a p).2) then (10 * nI w + nI p, allF (setS S 0 w (nI p))) else mvP S w a p).1 = -9
    by_cases c : freeB S (nI p) = false ∧ ((mvP S w a p).2 = -9 ∨ allF (setS S 0 w (nI p)) < (mvP S w a p).2)
    · rw [if_pos c]
      exact ⟨fun z => absurd z (all_9 (by rw [h1]; exact hF.1.1) (by rw [h2]; exact hF.2.1.1)), fun z => absurd z (by rw [m10]; exact nI9 (by omega))⟩
    · rw [if_neg c]; exact ih
theorem mvN_9 {S : St} (hF : WFS S) : ∀ w, w ≤ 5 → ((mvN S w).2 = -9 ↔ (mvN S w).1 = -9)
  | 0, _ => ⟨fun _ => rfl, fun _ => rfl⟩
  | w + 1, hw => mvP_9 hF (by omega) (mvN_9 hF w (by omega)) 9 (by decide)
def movF (S : St) (t : Int32) : Int32 := if t < 0 ∨ 1 < t then -2 else if t = 0 then (mvN S (nW S)).1 else (mvN S (nW S)).2
theorem set_set (S : St) (r k : Nat) (x y : Int32) : setS (setS S r k x) r k y = setS S r k y := by
  funext r' k'
  unfold setS
  by_cases c : r' = r ∧ k' = k
  · rw [if_pos c, if_pos c]
  · rw [if_neg c, if_neg c, if_neg c]
theorem set_id (S : St) (r k : Nat) : setS S r k (S r k) = S := by
  funext r' k'
  unfold setS
  by_cases c : r' = r ∧ k' = k
  · rw [if_pos c, c.1, c.2]
  · rw [if_neg c]
theorem b01 (b : Bool) : (if b then (0 : Int32) else 1) = 0 ↔ b = true := by cases b <;> decide
theorem c_moving {l : Launch} {D : va_G} {base : Nat} {h : Hp} (hr : Rel h) (w : Int32) : SI l D base M_Lm_moving [.ref 0, .int w] h (fun g x => FC h g ∧ x = movF (laneS h 2) w) := by
  refine SP.of [some (.ref 0), some (.int w), none, none, none, none, none] (by decide) rfl (Nat.le_of_ble_eq_true rfl) ?_
  obtain ⟨hSt, hF⟩ := hr.street
  have hw5 := hF.1.1
  have hm6 := hF.2.1.1
  by_cases h0 : w < 0 ∨ 1 < w
  · have hm : movF (laneS h 2) w = -2 := by unfold movF; rw [if_pos h0]
    refine wh_iload_n (pc := 0) d_Lm_moving_0 rfl rfl ?_
    refine wh_if_lt (pc := 1) (tgt := 9) d_Lm_moving_1 (by decide) (fun c_1 => ?_) (fun c_1 => ?_)
    · refine wh_bipush (pc := 9) (v := (-2)) d_Lm_moving_9 (by decide) ?_
      refine wh_iret (pc := 11) d_Lm_moving_11 rfl ?_
      exact ⟨_, rfl, FC.rf h, hm.symm⟩
    · refine wh_iload_n (pc := 4) d_Lm_moving_4 rfl rfl ?_
      refine wh_iconst (pc := 5) (v := 1) d_Lm_moving_5 (by decide) ?_
      refine wh_icmp_le (pc := 6) (tgt := 12) d_Lm_moving_6 (by decide) (fun c_6 => ?_) (fun c_6 => ?_)
      · rw [i_lt, i_lt] at h0
        rw [i_lt] at c_1
        rw [i_le] at c_6
        omega
      · refine wh_bipush (pc := 9) (v := (-2)) d_Lm_moving_9 (by decide) ?_
        refine wh_iret (pc := 11) d_Lm_moving_11 rfl ?_
        exact ⟨_, rfl, FC.rf h, hm.symm⟩
  · have hlc := lane_cp hw5 hm6
    refine wh_iload_n (pc := 0) d_Lm_moving_0 rfl rfl ?_
    refine wh_if_lt (pc := 1) (tgt := 9) d_Lm_moving_1 (by decide) (fun c_1 => absurd c_1 (fun z => h0 (Or.inl z))) (fun c_1 => ?_)
    refine wh_iload_n (pc := 4) d_Lm_moving_4 rfl rfl ?_
    refine wh_iconst (pc := 5) (v := 1) d_Lm_moving_5 (by decide) ?_
    refine wh_icmp_le (pc := 6) (tgt := 12) d_Lm_moving_6 (by decide) (fun c_6 => ?_) (fun c_6 => absurd (by rw [i_le]; rw [i_lt, i_lt] at h0; omega) c_6)
    refine wh_aload_n (pc := 12) d_Lm_moving_12 rfl rfl ?_
    refine gf_Lm_24 (pc := 13) rfl d_Lm_moving_13 ?_
    refine wh_aload_n (pc := 16) d_Lm_moving_16 rfl rfl ?_
    refine gf_Lm_20 (pc := 17) rfl d_Lm_moving_17 ?_
    refine cv_Lm_72_d (pc := 20) (Or.inr rfl) rfl d_Lm_moving_20 ⟨⟨by decide, by decide⟩, rfl, rfl⟩ (s_copy (Or.inr rfl) (Or.inl rfl) (by decide)) (Nat.le_of_ble_eq_true rfl) ?_
    refine wh_bipush (pc := 23) (v := (-9)) d_Lm_moving_23 (by decide) ?_
    refine wh_istore_n (pc := 25) (ls2 := [_, _, _, _, _, _, _]) d_Lm_moving_25 rfl (by decide) rfl rfl ?_
    refine wh_bipush (pc := 26) (v := (-9)) d_Lm_moving_26 (by decide) ?_
    refine wh_istore_n (pc := 28) (ls2 := [_, _, _, _, _, _, _]) d_Lm_moving_28 rfl (by decide) rfl rfl ?_
    refine wh_iconst (pc := 29) (v := 0) d_Lm_moving_29 (by decide) ?_
    refine wh_istore (pc := 30) (ls2 := [_, _, _, _, _, _, _]) d_Lm_moving_30 (by decide) rfl rfl ?_
    refine wh_loopR (nW (laneS h 2)) (fun i => [some (.ref 0), some (.int w), some (.int (mvN (laneS h 2) i).2), some (.int (mvN (laneS h 2) i).1), some (.int (nI i)), none, none]) (fun i g => FC h g ∧ laneS g 10 = (laneS h 2)) ?_ ?_ 0 _ (Nat.zero_le _) ⟨fc_cp, hlc⟩
    · intro g hI
      have h26 : gI g 2 6 = nI (nW (laneS h 2)) := (hI.1.2 2 6 (by unfold scC; omega)).trans (wf_w hF)
      refine wh_iload (pc := 32) d_Lm_moving_32 rfl ?_
      refine wh_aload_n (pc := 34) d_Lm_moving_34 rfl rfl ?_
      refine gf_Lm_20 (pc := 35) rfl d_Lm_moving_35 ?_
      refine gf_Lm_76 (pc := 38) (Or.inl rfl) rfl d_Lm_moving_38 ?_
      refine wh_icmp_ge (pc := 41) (tgt := 143) d_Lm_moving_41 (by decide) (fun c_41 => ?_) (fun c_41 => absurd (by rw [h26]; exact nI_le (Nat.le_refl _) (by omega)) c_41)
      refine wh_iload_n (pc := 143) d_Lm_moving_143 rfl rfl ?_
      refine wh_if_ne (pc := 144) (tgt := 151) d_Lm_moving_144 (by decide) (fun c_144 => ?_) (fun c_144 => ?_)
      · refine wh_iload_n (pc := 151) d_Lm_moving_151 rfl rfl ?_
        refine wh_iret (pc := 152) d_Lm_moving_152 rfl ?_
        refine ⟨_, rfl, hI.1, ?_⟩
        unfold movF
        rw [if_neg h0]
        first | (rw [if_pos c_144]; done) | (rw [if_neg c_144]; done)
      · refine wh_iload_n (pc := 147) d_Lm_moving_147 rfl rfl ?_
        refine wh_goto (pc := 148) (tgt := 152) d_Lm_moving_148 (by decide) ?_
        refine wh_iret (pc := 152) d_Lm_moving_152 rfl ?_
        refine ⟨_, rfl, hI.1, ?_⟩
        unfold movF
        rw [if_neg h0]
        first | (rw [if_pos c_144]; done) | (rw [if_neg c_144]; done)
    · intro i g hi hI ih
      have hci := cl_nI (show i < 2 ^ 31 by omega)
      have h26 : gI g 2 6 = nI (nW (laneS h 2)) := (hI.1.2 2 6 (by unfold scC; omega)).trans (wf_w hF)
      refine wh_iload (pc := 32) d_Lm_moving_32 rfl ?_
      refine wh_aload_n (pc := 34) d_Lm_moving_34 rfl rfl ?_
      refine gf_Lm_20 (pc := 35) rfl d_Lm_moving_35 ?_
      refine gf_Lm_76 (pc := 38) (Or.inl rfl) rfl d_Lm_moving_38 ?_
      refine wh_icmp_ge (pc := 41) (tgt := 143) d_Lm_moving_41 (by decide) (fun c_41 => absurd c_41 (by rw [h26]; exact nI_ge hi (by omega))) (fun c_41 => ?_)
      refine wh_iconst (pc := 44) (v := 0) d_Lm_moving_44 (by decide) ?_
      refine wh_istore (pc := 45) (ls2 := [_, _, _, _, _, _, _]) d_Lm_moving_45 (by decide) rfl rfl ?_
      refine wh_eq (wh_loopR 9 (fun q => [some (.ref 0), some (.int w), some (.int (mvP (laneS h 2) i (mvN (laneS h 2) i) q).2), some (.int (mvP (laneS h 2) i (mvN (laneS h 2) i) q).1), some (.int (nI i)), some (.int (nI q)), none]) (fun q g => FC h g ∧ ∃ x, laneS g 10 = setS (laneS h 2) 0 i x) ?_ ?_ 0 g (Nat.zero_le _) ⟨hI.1, (laneS h 2) 0 i, by rw [set_id]; exact hI.2⟩) rfl rfl rfl
      · intro g hI2
        obtain ⟨hfc, x0, hx0⟩ := hI2
        have hlg : laneS g 2 = (laneS h 2) := fc_lane hfc
        refine wh_iload (pc := 47) d_Lm_moving_47 rfl ?_
        refine wh_bipush (pc := 49) (v := 9) d_Lm_moving_49 (by decide) ?_
        refine wh_icmp_ge (pc := 51) (tgt := 117) d_Lm_moving_51 (by decide) (fun c_51 => ?_) (fun c_51 => absurd (by decide) c_51)
        refine wh_aload_n (pc := 117) d_Lm_moving_117 rfl rfl ?_
        refine gf_Lm_24 (pc := 118) rfl d_Lm_moving_118 ?_
        refine gf_Lm_105 (pc := 121) (Or.inr rfl) rfl d_Lm_moving_121 ?_
        refine wh_iload (pc := 124) d_Lm_moving_124 rfl ?_
        refine wh_aload_n (pc := 126) d_Lm_moving_126 rfl rfl ?_
        refine gf_Lm_20 (pc := 127) rfl d_Lm_moving_127 ?_
        refine gf_Lm_105 (pc := 130) (Or.inl rfl) rfl d_Lm_moving_130 ?_
        refine wh_iload (pc := 133) d_Lm_moving_133 rfl ?_
        refine wh_iald (pc := 135) d_Lm_moving_135 (la_spots (Or.inl rfl)) (in_nI (by omega) (by omega)) ?_
        refine wh_iast (pc := 136) d_Lm_moving_136 (la_spots (Or.inr rfl)) (in_nI (by omega) (by omega)) ?_
        refine wh_iinc (pc := 137) (ls2 := [_, _, _, _, _, _, _]) d_Lm_moving_137 rfl (nI_inc _) (by decide) rfl rfl ?_
        refine wh_goto (pc := 140) (tgt := 32) d_Lm_moving_140 (by decide) ?_
        refine wh_drop (i := 5) (ls2 := [_, _, _, _, _, _, _]) rfl ?_
        rw [hci]
        refine ih _ ⟨hfc.tr (fc_sI (by unfold scC; omega)), ?_⟩
        have e3 : gI g 3 i = (laneS h 2) 0 i := by rw [← hlg]; exact la0 (by rw [hlg]; exact hi)
        rw [e3]
        refine (lane_s0 (b := 10) (by rw [hx0, nW_set (by omega)]; exact hi)).trans ?_
        rw [hx0, set_set, set_id]
      · intro q g hq hI ih2
        obtain ⟨hfc, x0, hx0⟩ := hI
        have hlg : laneS g 2 = (laneS h 2) := fc_lane hfc
        have hT : laneS (sI g (10 + 1) i (nI q)) 10 = (setS (laneS h 2) 0 i (nI q)) := by rw [lane_s0 (by rw [hx0, nW_set (by omega)]; exact hi), hx0, set_set]
        have hTF : WFS (setS (laneS h 2) 0 i (nI q)) := wf_set0 hF (by omega)
        have hf2 : FC h (fillA (sI g (10 + 1) i (nI q)) (10 + 7) (owedF (setS (laneS h 2) 0 i (nI q))) (nW (setS (laneS h 2) 0 i (nI q)))) := (hfc.tr (fc_sI (by unfold scC; omega))).tr (fc_fill (by unfold scC; omega))
        have hl2 : laneS (fillA (sI g (10 + 1) i (nI q)) (10 + 7) (owedF (setS (laneS h 2) 0 i (nI q))) (nW (setS (laneS h 2) 0 i (nI q)))) 10 = (setS (laneS h 2) 0 i (nI q)) := by rw [lane_dues, hT]
        have h9 := mvP_9 (w := i) hF (by omega) (mvN_9 hF i (by omega)) q (by omega)
        have es : mvP (laneS h 2) i (mvN (laneS h 2) i) (q + 1) = if freeB (laneS h 2) (nI q) = false ∧ ((mvP (laneS h 2) i (mvN (laneS h 2) i) q).2 = -9 ∨ allF (setS (laneS h 2) 0 i (nI q)) < (mvP (laneS h 2) i (mvN (laneS h 2) i) q).2) then (10 * nI i + nI q, allF (setS (laneS h 2) 0 i (nI q))) else (mvP (laneS h 2) i (mvN (laneS h 2) i) q) := rfl
        refine wh_iload (pc := 47) d_Lm_moving_47 rfl ?_
        refine wh_bipush (pc := 49) (v := 9) d_Lm_moving_49 (by decide) ?_
        refine wh_icmp_ge (pc := 51) (tgt := 117) d_Lm_moving_51 (by decide) (fun c_51 => absurd c_51 (nI_ge hq (by decide))) (fun c_51 => ?_)
        refine wh_aload_n (pc := 54) d_Lm_moving_54 rfl rfl ?_
        refine gf_Lm_20 (pc := 55) rfl d_Lm_moving_55 ?_
        refine wh_iload (pc := 58) d_Lm_moving_58 rfl ?_
        refine cv_Lm_186_d (pc := 60) (Or.inl rfl) rfl d_Lm_moving_60 ⟨⟨by decide, by decide⟩, rfl, rfl⟩ (s_isFree (Or.inl rfl) hlg hF) (Nat.le_of_ble_eq_true rfl) ?_
        refine wh_if_eq (pc := 63) (tgt := 111) d_Lm_moving_63 (by decide) (fun c_63 => ?_) (fun c_63 => ?_)
        · refine wh_iinc (pc := 111) (ls2 := [_, _, _, _, _, _, _]) d_Lm_moving_111 rfl (nI_inc _) (by decide) rfl rfl ?_
          refine wh_goto (pc := 114) (tgt := 47) d_Lm_moving_114 (by decide) ?_
          first | refine wh_drop (i := 6) (ls2 := [_, _, _, _, _, _, _]) rfl ?_ | skip
          rw [show (if anyN (fun q_1 => decide ((laneS h 2) 0 q_1 = nI q)) (nW (laneS h 2)) then (0 : Int32) else 1) = if freeB (laneS h 2) (nI q) then 0 else 1 from rfl, b01] at c_63
          first
            | (refine wh_eq (ih2 _ ⟨hf2, nI q, hl2⟩) ?_ rfl rfl; rw [es, if_pos ⟨by simpa using c_63, Or.inl (h9.mpr c_90)⟩]; done)
            | (refine wh_eq (ih2 _ ⟨hf2, nI q, hl2⟩) ?_ rfl rfl; rw [es, if_pos ⟨by simpa using c_63, Or.inr (by rw [i_lt]; rw [i_le] at c_96; omega)⟩]; done)
            | (refine wh_eq (ih2 _ ⟨hf2, nI q, hl2⟩) ?_ rfl rfl; rw [es, if_neg (fun y => y.2.elim (fun y => c_90 (h9.mp y)) (fun y => by rw [i_lt] at y; rw [i_le] at c_96; omega))]; done)
            | (refine wh_eq (ih2 _ ⟨hfc, x0, hx0⟩) ?_ rfl rfl; rw [es, if_neg (fun y => by rw [c_63] at y; exact absurd y.1 (by decide))]; done)
        · refine wh_aload_n (pc := 66) d_Lm_moving_66 rfl rfl ?_
          refine gf_Lm_24 (pc := 67) rfl d_Lm_moving_67 ?_
          refine gf_Lm_105 (pc := 70) (Or.inr rfl) rfl d_Lm_moving_70 ?_
          refine wh_iload (pc := 73) d_Lm_moving_73 rfl ?_
          refine wh_iload (pc := 75) d_Lm_moving_75 rfl ?_
          refine wh_iast (pc := 77) d_Lm_moving_77 (la_spots (Or.inr rfl)) (in_nI (by omega) (by omega)) ?_
          refine wh_aload_n (pc := 78) d_Lm_moving_78 rfl rfl ?_
          refine gf_Lm_24 (pc := 79) rfl d_Lm_moving_79 ?_
          refine cv_Lm_95_d (pc := 82) (Or.inr rfl) rfl d_Lm_moving_82 ⟨⟨by decide, by decide⟩, rfl, rfl⟩ ((show SD l D base M_Ln_owedByAll [.ref 10] (sI g 11 (nI i).toNatClampNeg (nI q)) (some (.int (allF (setS (laneS h 2) 0 i (nI q))))) (fillA (sI g (10 + 1) i (nI q)) (10 + 7) (owedF (setS (laneS h 2) 0 i (nI q))) (nW (setS (laneS h 2) 0 i (nI q)))) by rw [hci]; exact s_all (Or.inr rfl) hT hTF)) (Nat.le_of_ble_eq_true rfl) ?_
          refine wh_istore (pc := 85) (ls2 := [_, _, _, _, _, _, _]) d_Lm_moving_85 (by decide) rfl rfl ?_
          refine wh_iload_n (pc := 87) d_Lm_moving_87 rfl rfl ?_
          refine wh_bipush (pc := 88) (v := (-9)) d_Lm_moving_88 (by decide) ?_
          refine wh_icmp_eq (pc := 90) (tgt := 99) d_Lm_moving_90 (by decide) (fun c_90 => ?_) (fun c_90 => ?_)
          · refine wh_iload (pc := 99) d_Lm_moving_99 rfl ?_
            refine wh_istore_n (pc := 101) (ls2 := [_, _, _, _, _, _, _]) d_Lm_moving_101 rfl (by decide) rfl rfl ?_
            refine wh_bipush (pc := 102) (v := 10) d_Lm_moving_102 (by decide) ?_
            refine wh_iload (pc := 104) d_Lm_moving_104 rfl ?_
            refine wh_imul (pc := 106) d_Lm_moving_106 ?_
            refine wh_iload (pc := 107) d_Lm_moving_107 rfl ?_
            refine wh_iadd (pc := 109) d_Lm_moving_109 ?_
            refine wh_istore_n (pc := 110) (ls2 := [_, _, _, _, _, _, _]) d_Lm_moving_110 rfl (by decide) rfl rfl ?_
            refine wh_iinc (pc := 111) (ls2 := [_, _, _, _, _, _, _]) d_Lm_moving_111 rfl (nI_inc _) (by decide) rfl rfl ?_
            refine wh_goto (pc := 114) (tgt := 47) d_Lm_moving_114 (by decide) ?_
            first | refine wh_drop (i := 6) (ls2 := [_, _, _, _, _, _, _]) rfl ?_ | skip
            rw [show (if anyN (fun q_1 => decide ((laneS h 2) 0 q_1 = nI q)) (nW (laneS h 2)) then (0 : Int32) else 1) = if freeB (laneS h 2) (nI q) then 0 else 1 from rfl, b01] at c_63
            first
              | (refine wh_eq (ih2 _ ⟨hf2, nI q, hl2⟩) ?_ rfl rfl; rw [es, if_pos ⟨by simpa using c_63, Or.inl (h9.mpr c_90)⟩]; done)
              | (refine wh_eq (ih2 _ ⟨hf2, nI q, hl2⟩) ?_ rfl rfl; rw [es, if_pos ⟨by simpa using c_63, Or.inr (by rw [i_lt]; rw [i_le] at c_96; omega)⟩]; done)
              | (refine wh_eq (ih2 _ ⟨hf2, nI q, hl2⟩) ?_ rfl rfl; rw [es, if_neg (fun y => y.2.elim (fun y => c_90 (h9.mp y)) (fun y => by rw [i_lt] at y; rw [i_le] at c_96; omega))]; done)
              | (refine wh_eq (ih2 _ ⟨hfc, x0, hx0⟩) ?_ rfl rfl; rw [es, if_neg (fun y => by rw [c_63] at y; exact absurd y.1 (by decide))]; done)
          · refine wh_iload (pc := 93) d_Lm_moving_93 rfl ?_
            refine wh_iload_n (pc := 95) d_Lm_moving_95 rfl rfl ?_
            refine wh_icmp_ge (pc := 96) (tgt := 111) d_Lm_moving_96 (by decide) (fun c_96 => ?_) (fun c_96 => ?_)
            · refine wh_iinc (pc := 111) (ls2 := [_, _, _, _, _, _, _]) d_Lm_moving_111 rfl (nI_inc _) (by decide) rfl rfl ?_
              refine wh_goto (pc := 114) (tgt := 47) d_Lm_moving_114 (by decide) ?_
              first | refine wh_drop (i := 6) (ls2 := [_, _, _, _, _, _, _]) rfl ?_ | skip
              rw [show (if anyN (fun q_1 => decide ((laneS h 2) 0 q_1 = nI q)) (nW (laneS h 2)) then (0 : Int32) else 1) = if freeB (laneS h 2) (nI q) then 0 else 1 from rfl, b01] at c_63
              first
                | (refine wh_eq (ih2 _ ⟨hf2, nI q, hl2⟩) ?_ rfl rfl; rw [es, if_pos ⟨by simpa using c_63, Or.inl (h9.mpr c_90)⟩]; done)
                | (refine wh_eq (ih2 _ ⟨hf2, nI q, hl2⟩) ?_ rfl rfl; rw [es, if_pos ⟨by simpa using c_63, Or.inr (by rw [i_lt]; rw [i_le] at c_96; omega)⟩]; done)
                | (refine wh_eq (ih2 _ ⟨hf2, nI q, hl2⟩) ?_ rfl rfl; rw [es, if_neg (fun y => y.2.elim (fun y => c_90 (h9.mp y)) (fun y => by rw [i_lt] at y; rw [i_le] at c_96; omega))]; done)
                | (refine wh_eq (ih2 _ ⟨hfc, x0, hx0⟩) ?_ rfl rfl; rw [es, if_neg (fun y => by rw [c_63] at y; exact absurd y.1 (by decide))]; done)
            · refine wh_iload (pc := 99) d_Lm_moving_99 rfl ?_
              refine wh_istore_n (pc := 101) (ls2 := [_, _, _, _, _, _, _]) d_Lm_moving_101 rfl (by decide) rfl rfl ?_
              refine wh_bipush (pc := 102) (v := 10) d_Lm_moving_102 (by decide) ?_
              refine wh_iload (pc := 104) d_Lm_moving_104 rfl ?_
              refine wh_imul (pc := 106) d_Lm_moving_106 ?_
              refine wh_iload (pc := 107) d_Lm_moving_107 rfl ?_
              refine wh_iadd (pc := 109) d_Lm_moving_109 ?_
              refine wh_istore_n (pc := 110) (ls2 := [_, _, _, _, _, _, _]) d_Lm_moving_110 rfl (by decide) rfl rfl ?_
              refine wh_iinc (pc := 111) (ls2 := [_, _, _, _, _, _, _]) d_Lm_moving_111 rfl (nI_inc _) (by decide) rfl rfl ?_
              refine wh_goto (pc := 114) (tgt := 47) d_Lm_moving_114 (by decide) ?_
              first | refine wh_drop (i := 6) (ls2 := [_, _, _, _, _, _, _]) rfl ?_ | skip
              rw [show (if anyN (fun q_1 => decide ((laneS h 2) 0 q_1 = nI q)) (nW (laneS h 2)) then (0 : Int32) else 1) = if freeB (laneS h 2) (nI q) then 0 else 1 from rfl, b01] at c_63
              first
                | (refine wh_eq (ih2 _ ⟨hf2, nI q, hl2⟩) ?_ rfl rfl; rw [es, if_pos ⟨by simpa using c_63, Or.inl (h9.mpr c_90)⟩]; done)
                | (refine wh_eq (ih2 _ ⟨hf2, nI q, hl2⟩) ?_ rfl rfl; rw [es, if_pos ⟨by simpa using c_63, Or.inr (by rw [i_lt]; rw [i_le] at c_96; omega)⟩]; done)
                | (refine wh_eq (ih2 _ ⟨hf2, nI q, hl2⟩) ?_ rfl rfl; rw [es, if_neg (fun y => y.2.elim (fun y => c_90 (h9.mp y)) (fun y => by rw [i_lt] at y; rw [i_le] at c_96; omega))]; done)
                | (refine wh_eq (ih2 _ ⟨hfc, x0, hx0⟩) ?_ rfl rfl; rw [es, if_neg (fun y => by rw [c_63] at y; exact absurd y.1 (by decide))]; done)
theorem r_findMoving {l : Launch} {D : va_G} {base : Nat} {h h0 : Hp} (hF8 : WFS (pageS h 48)) (hf0 : FM h h0) : SV l D base M_Md_findMoving [.ref 42] h0 (fun g => FM h g ∧ gI g 42 29 = (mvN (pageS h 48) (nW (pageS h 48))).1 ∧ gI g 42 30 = (mvN (pageS h 48) (nW (pageS h 48))).2) := by
  refine SP.of [some (.ref 42), none, none, none] (by decide) rfl (Nat.le_of_ble_eq_true rfl) ?_
  have hw5 := hF8.1.1
  have hm6 := hF8.2.1.1
  refine wh_aload_n (pc := 0) d_Md_findMoving_0 rfl rfl ?_
  refine wh_bipush (pc := 1) (v := (-9)) d_Md_findMoving_1 (by decide) ?_
  refine pf_Md_201 (pc := 3) rfl d_Md_findMoving_3 ?_
  refine wh_aload_n (pc := 6) d_Md_findMoving_6 rfl rfl ?_
  refine wh_bipush (pc := 7) (v := (-9)) d_Md_findMoving_7 (by decide) ?_
  refine pf_Md_204 (pc := 9) rfl d_Md_findMoving_9 ?_
  refine wh_iconst (pc := 12) (v := 0) d_Md_findMoving_12 (by decide) ?_
  refine wh_istore_n (pc := 13) (ls2 := [_, _, _, _]) d_Md_findMoving_13 rfl (by decide) rfl rfl ?_
  refine wh_loopR (nW (pageS h 48)) (fun i => [some (.ref 42), some (.int (nI i)), none, none]) (fun i g => FM h g ∧ gI g 42 29 = (mvN (pageS h 48) i).1 ∧ gI g 42 30 = (mvN (pageS h 48) i).2) ?_ ?_ 0 _ (Nat.zero_le _) ⟨(hf0.tr (fm_sI (by unfold scM; omega))).tr (fm_sI (by unfold scM; omega)), by rw [gI_sM (by decide), gI_sS]; rfl, by rw [gI_sS]; rfl⟩
  · intro g hI
    have h4 : gI g 42 4 = nI (nW (pageS h 48)) := by rw [hI.1.2 42 4 (by unfold scM; omega)]; exact pf_w hF8
    refine wh_iload_n (pc := 14) d_Md_findMoving_14 rfl rfl ?_
    refine wh_aload_n (pc := 15) d_Md_findMoving_15 rfl rfl ?_
    refine gf_Md_66 (pc := 16) rfl d_Md_findMoving_16 ?_
    refine wh_icmp_ge (pc := 19) (tgt := 105) d_Md_findMoving_19 (by decide) (fun c_19 => ?_) (fun c_19 => absurd (by rw [h4]; exact nI_le (Nat.le_refl _) (by omega)) c_19)
    refine wh_vret (pc := 105) d_Md_findMoving_105 rfl ?_
    exact ⟨rfl, hI⟩
  · intro i g hi hI ih
    have h4 : gI g 42 4 = nI (nW (pageS h 48)) := by rw [hI.1.2 42 4 (by unfold scM; omega)]; exact pf_w hF8
    refine wh_iload_n (pc := 14) d_Md_findMoving_14 rfl rfl ?_
    refine wh_aload_n (pc := 15) d_Md_findMoving_15 rfl rfl ?_
    refine gf_Md_66 (pc := 16) rfl d_Md_findMoving_16 ?_
    refine wh_icmp_ge (pc := 19) (tgt := 105) d_Md_findMoving_19 (by decide) (fun c_19 => absurd c_19 (by rw [h4]; exact nI_ge hi (by omega))) (fun c_19 => ?_)
    refine wh_iconst (pc := 22) (v := 0) d_Md_findMoving_22 (by decide) ?_
    refine wh_istore_n (pc := 23) (ls2 := [_, _, _, _]) d_Md_findMoving_23 rfl (by decide) rfl rfl ?_
    refine wh_loopR 9 (fun q => [some (.ref 42), some (.int (nI i)), some (.int (nI q)), none]) (fun q g => FM h g ∧ gI g 42 29 = (mvP (pageS h 48) i (mvN (pageS h 48) i) q).1 ∧ gI g 42 30 = (mvP (pageS h 48) i (mvN (pageS h 48) i) q).2) ?_ ?_ 0 g (Nat.zero_le _) hI
    · intro g hI2
      refine wh_iload_n (pc := 24) d_Md_findMoving_24 rfl rfl ?_
      refine wh_bipush (pc := 25) (v := 9) d_Md_findMoving_25 (by decide) ?_
      refine wh_icmp_ge (pc := 27) (tgt := 99) d_Md_findMoving_27 (by decide) (fun c_27 => ?_) (fun c_27 => absurd (by decide) c_27)
      refine wh_iinc (pc := 99) (ls2 := [_, _, _, _]) d_Md_findMoving_99 rfl (nI_inc _) (by decide) rfl rfl ?_
      refine wh_goto (pc := 102) (tgt := 14) d_Md_findMoving_102 (by decide) ?_
      refine wh_drop (i := 2) (ls2 := [_, _, _, _]) rfl ?_
      exact ih _ hI2
    · intro q g hq hI ih2
      obtain ⟨hfm, h29, h30⟩ := hI
      have hgS : pageS g 48 = (pageS h 48) := fm_page hfm
      have hB : pageS (bgH g) 49 = (pageS h 48) := by rw [page_bg (by rw [hgS]; exact hw5) (by rw [hgS]; exact hm6), hgS]
      have hT : pageS (sI (bgH g) 49 (19 + nI i).toNatClampNeg (nI q)) 49 = (setS (pageS h 48) 0 i (nI q)) := by rw [a19, cl_nI (by omega), page_s0 (by rw [hB]; exact hi) (by rw [hB]; exact hw5) (by rw [hB]; exact hm6), hB]
      have hTF : WFS (setS (pageS h 48) 0 i (nI q)) := wf_set0 hF8 (by omega)
      have hfL : FM h (layH (sI (bgH g) 49 (19 + nI i).toNatClampNeg (nI q)) 49) := ((hfm.tr fm_bg).tr (fm_sI (by unfold scM; omega))).tr fm_lay
      have hP8 : pageS (layH (sI (bgH g) 49 (19 + nI i).toNatClampNeg (nI q)) 49) 48 = (pageS h 48) := fm_page hfL
      have hLx : ∀ j, gI (layH (sI (bgH g) 49 (19 + nI i).toNatClampNeg (nI q)) 49) 42 j = gI g 42 j := fun j => by rw [lay_N (by decide) (by decide), gI_sN (by decide)]; exact gI_fillN (by decide)
      have hL29 : gI (layH (sI (bgH g) 49 (19 + nI i).toNatClampNeg (nI q)) 49) 42 29 = (mvP (pageS h 48) i (mvN (pageS h 48) i) q).1 := by rw [hLx]; exact h29
      have hL30 : gI (layH (sI (bgH g) 49 (19 + nI i).toNatClampNeg (nI q)) 49) 42 30 = (mvP (pageS h 48) i (mvN (pageS h 48) i) q).2 := by rw [hLx]; exact h30
      have es : mvP (pageS h 48) i (mvN (pageS h 48) i) (q + 1) = if freeB (pageS h 48) (nI q) = false ∧ ((mvP (pageS h 48) i (mvN (pageS h 48) i) q).2 = -9 ∨ allF (setS (pageS h 48) 0 i (nI q)) < (mvP (pageS h 48) i (mvN (pageS h 48) i) q).2) then (10 * nI i + nI q, allF (setS (pageS h 48) 0 i (nI q))) else (mvP (pageS h 48) i (mvN (pageS h 48) i) q) := rfl
      refine wh_iload_n (pc := 24) d_Md_findMoving_24 rfl rfl ?_
      refine wh_bipush (pc := 25) (v := 9) d_Md_findMoving_25 (by decide) ?_
      refine wh_icmp_ge (pc := 27) (tgt := 99) d_Md_findMoving_27 (by decide) (fun c_27 => absurd c_27 (nI_ge hq (by decide))) (fun c_27 => ?_)
      refine wh_aload_n (pc := 30) d_Md_findMoving_30 rfl rfl ?_
      refine cv_Md_180_d (pc := 31) rfl d_Md_findMoving_31 ⟨⟨by decide, by decide⟩, rfl, rfl⟩ (m_begin) (Nat.le_of_ble_eq_true rfl) ?_
      refine wh_aload_n (pc := 34) d_Md_findMoving_34 rfl rfl ?_
      refine gf_Md_28 (pc := 35) rfl d_Md_findMoving_35 ?_
      refine wh_bipush (pc := 38) (v := 19) d_Md_findMoving_38 (by decide) ?_
      refine wh_iload_n (pc := 40) d_Md_findMoving_40 rfl rfl ?_
      refine wh_iadd (pc := 41) d_Md_findMoving_41 ?_
      refine wh_iload_n (pc := 42) d_Md_findMoving_42 rfl rfl ?_
      refine wh_iast (pc := 43) d_Md_findMoving_43 rfl (by first | exact in_nI (by omega) (by omega) | (simp only [a0, a5, a10, a19]; exact in_nI (by omega) (by omega)) | exact vp_in_iff.mpr (by decide)) ?_
      refine wh_aload_n (pc := 44) d_Md_findMoving_44 rfl rfl ?_
      refine wh_aload_n (pc := 45) d_Md_findMoving_45 rfl rfl ?_
      refine gf_Md_28 (pc := 46) rfl d_Md_findMoving_46 ?_
      refine cv_Md_148_d (pc := 49) rfl d_Md_findMoving_49 ⟨⟨by decide, by decide⟩, rfl, rfl⟩ (m_lay (Or.inr rfl) hT hTF) (Nat.le_of_ble_eq_true rfl) ?_
      refine wh_istore_n (pc := 52) (ls2 := [_, _, _, _]) d_Md_findMoving_52 rfl (by decide) rfl rfl ?_
      refine wh_aload_n (pc := 53) d_Md_findMoving_53 rfl rfl ?_
      refine wh_iload_n (pc := 54) d_Md_findMoving_54 rfl rfl ?_
      refine cv_Md_207_d (pc := 55) rfl d_Md_findMoving_55 ⟨⟨by decide, by decide⟩, rfl, rfl⟩ (m_isFree hP8 hF8) (Nat.le_of_ble_eq_true rfl) ?_
      refine wh_if_eq (pc := 58) (tgt := 93) d_Md_findMoving_58 (by decide) (fun c_58 => ?_) (fun c_58 => ?_)
      · refine wh_iinc (pc := 93) (ls2 := [_, _, _, _]) d_Md_findMoving_93 rfl (nI_inc _) (by decide) rfl rfl ?_
        refine wh_goto (pc := 96) (tgt := 24) d_Md_findMoving_96 (by decide) ?_
        refine wh_drop (i := 3) (ls2 := [_, _, _, _]) rfl ?_
        rw [show (if anyN (fun q_1 => decide ((pageS h 48) 0 q_1 = nI q)) (nW (pageS h 48)) then (0 : Int32) else 1) = if freeB (pageS h 48) (nI q) then 0 else 1 from rfl, b01] at c_58
        try rw [hL30] at c_67
        try rw [hL30] at c_75
        first
          | (refine ih2 _ ⟨hfL.tr ((fm_sI (by unfold scM; omega)).tr (fm_sI (by unfold scM; omega))), ?_, ?_⟩
             · rw [gI_sM (by decide), gI_sS, es, if_pos ⟨by simpa using c_58, Or.inl c_67⟩]
             · rw [gI_sS, es, if_pos ⟨by simpa using c_58, Or.inl c_67⟩])
          | (refine ih2 _ ⟨hfL.tr ((fm_sI (by unfold scM; omega)).tr (fm_sI (by unfold scM; omega))), ?_, ?_⟩
             · rw [gI_sM (by decide), gI_sS, es, if_pos ⟨by simpa using c_58, Or.inr (by rw [i_lt]; rw [i_le] at c_75; omega)⟩]
             · rw [gI_sS, es, if_pos ⟨by simpa using c_58, Or.inr (by rw [i_lt]; rw [i_le] at c_75; omega)⟩])
          | (refine ih2 _ ⟨hfL, ?_, ?_⟩
             · rw [hL29, es, if_neg (fun y => y.2.elim (fun y => c_67 y) (fun y => by rw [i_lt] at y; rw [i_le] at c_75; omega))]
             · rw [hL30, es, if_neg (fun y => y.2.elim (fun y => c_67 y) (fun y => by rw [i_lt] at y; rw [i_le] at c_75; omega))])
          | (refine ih2 _ ⟨hfL, ?_, ?_⟩
             · rw [hL29, es, if_neg (fun y => by rw [c_58] at y; exact absurd y.1 (by decide))]
             · rw [hL30, es, if_neg (fun y => by rw [c_58] at y; exact absurd y.1 (by decide))])
      · refine wh_aload_n (pc := 61) d_Md_findMoving_61 rfl rfl ?_
        refine gf_Md_204 (pc := 62) rfl d_Md_findMoving_62 ?_
        refine wh_bipush (pc := 65) (v := (-9)) d_Md_findMoving_65 (by decide) ?_
        refine wh_icmp_eq (pc := 67) (tgt := 78) d_Md_findMoving_67 (by decide) (fun c_67 => ?_) (fun c_67 => ?_)
        · refine wh_aload_n (pc := 78) d_Md_findMoving_78 rfl rfl ?_
          refine wh_bipush (pc := 79) (v := 10) d_Md_findMoving_79 (by decide) ?_
          refine wh_iload_n (pc := 81) d_Md_findMoving_81 rfl rfl ?_
          refine wh_imul (pc := 82) d_Md_findMoving_82 ?_
          refine wh_iload_n (pc := 83) d_Md_findMoving_83 rfl rfl ?_
          refine wh_iadd (pc := 84) d_Md_findMoving_84 ?_
          refine pf_Md_201 (pc := 85) rfl d_Md_findMoving_85 ?_
          refine wh_aload_n (pc := 88) d_Md_findMoving_88 rfl rfl ?_
          refine wh_iload_n (pc := 89) d_Md_findMoving_89 rfl rfl ?_
          refine pf_Md_204 (pc := 90) rfl d_Md_findMoving_90 ?_
          refine wh_iinc (pc := 93) (ls2 := [_, _, _, _]) d_Md_findMoving_93 rfl (nI_inc _) (by decide) rfl rfl ?_
          refine wh_goto (pc := 96) (tgt := 24) d_Md_findMoving_96 (by decide) ?_
          refine wh_drop (i := 3) (ls2 := [_, _, _, _]) rfl ?_
          rw [show (if anyN (fun q_1 => decide ((pageS h 48) 0 q_1 = nI q)) (nW (pageS h 48)) then (0 : Int32) else 1) = if freeB (pageS h 48) (nI q) then 0 else 1 from rfl, b01] at c_58
          try rw [hL30] at c_67
          try rw [hL30] at c_75
          first
            | (refine ih2 _ ⟨hfL.tr ((fm_sI (by unfold scM; omega)).tr (fm_sI (by unfold scM; omega))), ?_, ?_⟩
               · rw [gI_sM (by decide), gI_sS, es, if_pos ⟨by simpa using c_58, Or.inl c_67⟩]
               · rw [gI_sS, es, if_pos ⟨by simpa using c_58, Or.inl c_67⟩])
            | (refine ih2 _ ⟨hfL.tr ((fm_sI (by unfold scM; omega)).tr (fm_sI (by unfold scM; omega))), ?_, ?_⟩
               · rw [gI_sM (by decide), gI_sS, es, if_pos ⟨by simpa using c_58, Or.inr (by rw [i_lt]; rw [i_le] at c_75; omega)⟩]
               · rw [gI_sS, es, if_pos ⟨by simpa using c_58, Or.inr (by rw [i_lt]; rw [i_le] at c_75; omega)⟩])
            | (refine ih2 _ ⟨hfL, ?_, ?_⟩
               · rw [hL29, es, if_neg (fun y => y.2.elim (fun y => c_67 y) (fun y => by rw [i_lt] at y; rw [i_le] at c_75; omega))]
               · rw [hL30, es, if_neg (fun y => y.2.elim (fun y => c_67 y) (fun y => by rw [i_lt] at y; rw [i_le] at c_75; omega))])
            | (refine ih2 _ ⟨hfL, ?_, ?_⟩
               · rw [hL29, es, if_neg (fun y => by rw [c_58] at y; exact absurd y.1 (by decide))]
               · rw [hL30, es, if_neg (fun y => by rw [c_58] at y; exact absurd y.1 (by decide))])
        · refine wh_iload_n (pc := 70) d_Md_findMoving_70 rfl rfl ?_
          refine wh_aload_n (pc := 71) d_Md_findMoving_71 rfl rfl ?_
          refine gf_Md_204 (pc := 72) rfl d_Md_findMoving_72 ?_
          refine wh_icmp_ge (pc := 75) (tgt := 93) d_Md_findMoving_75 (by decide) (fun c_75 => ?_) (fun c_75 => ?_)
          · refine wh_iinc (pc := 93) (ls2 := [_, _, _, _]) d_Md_findMoving_93 rfl (nI_inc _) (by decide) rfl rfl ?_
            refine wh_goto (pc := 96) (tgt := 24) d_Md_findMoving_96 (by decide) ?_
            refine wh_drop (i := 3) (ls2 := [_, _, _, _]) rfl ?_
            rw [show (if anyN (fun q_1 => decide ((pageS h 48) 0 q_1 = nI q)) (nW (pageS h 48)) then (0 : Int32) else 1) = if freeB (pageS h 48) (nI q) then 0 else 1 from rfl, b01] at c_58
            try rw [hL30] at c_67
            try rw [hL30] at c_75
            first
              | (refine ih2 _ ⟨hfL.tr ((fm_sI (by unfold scM; omega)).tr (fm_sI (by unfold scM; omega))), ?_, ?_⟩
                 · rw [gI_sM (by decide), gI_sS, es, if_pos ⟨by simpa using c_58, Or.inl c_67⟩]
                 · rw [gI_sS, es, if_pos ⟨by simpa using c_58, Or.inl c_67⟩])
              | (refine ih2 _ ⟨hfL.tr ((fm_sI (by unfold scM; omega)).tr (fm_sI (by unfold scM; omega))), ?_, ?_⟩
                 · rw [gI_sM (by decide), gI_sS, es, if_pos ⟨by simpa using c_58, Or.inr (by rw [i_lt]; rw [i_le] at c_75; omega)⟩]
                 · rw [gI_sS, es, if_pos ⟨by simpa using c_58, Or.inr (by rw [i_lt]; rw [i_le] at c_75; omega)⟩])
              | (refine ih2 _ ⟨hfL, ?_, ?_⟩
                 · rw [hL29, es, if_neg (fun y => y.2.elim (fun y => c_67 y) (fun y => by rw [i_lt] at y; rw [i_le] at c_75; omega))]
                 · rw [hL30, es, if_neg (fun y => y.2.elim (fun y => c_67 y) (fun y => by rw [i_lt] at y; rw [i_le] at c_75; omega))])
              | (refine ih2 _ ⟨hfL, ?_, ?_⟩
                 · rw [hL29, es, if_neg (fun y => by rw [c_58] at y; exact absurd y.1 (by decide))]
                 · rw [hL30, es, if_neg (fun y => by rw [c_58] at y; exact absurd y.1 (by decide))])
          · refine wh_aload_n (pc := 78) d_Md_findMoving_78 rfl rfl ?_
            refine wh_bipush (pc := 79) (v := 10) d_Md_findMoving_79 (by decide) ?_
            refine wh_iload_n (pc := 81) d_Md_findMoving_81 rfl rfl ?_
            refine wh_imul (pc := 82) d_Md_findMoving_82 ?_
            refine wh_iload_n (pc := 83) d_Md_findMoving_83 rfl rfl ?_
            refine wh_iadd (pc := 84) d_Md_findMoving_84 ?_
            refine pf_Md_201 (pc := 85) rfl d_Md_findMoving_85 ?_
            refine wh_aload_n (pc := 88) d_Md_findMoving_88 rfl rfl ?_
            refine wh_iload_n (pc := 89) d_Md_findMoving_89 rfl rfl ?_
            refine pf_Md_204 (pc := 90) rfl d_Md_findMoving_90 ?_
            refine wh_iinc (pc := 93) (ls2 := [_, _, _, _]) d_Md_findMoving_93 rfl (nI_inc _) (by decide) rfl rfl ?_
            refine wh_goto (pc := 96) (tgt := 24) d_Md_findMoving_96 (by decide) ?_
            refine wh_drop (i := 3) (ls2 := [_, _, _, _]) rfl ?_
            rw [show (if anyN (fun q_1 => decide ((pageS h 48) 0 q_1 = nI q)) (nW (pageS h 48)) then (0 : Int32) else 1) = if freeB (pageS h 48) (nI q) then 0 else 1 from rfl, b01] at c_58
            try rw [hL30] at c_67
            try rw [hL30] at c_75
            first
              | (refine ih2 _ ⟨hfL.tr ((fm_sI (by unfold scM; omega)).tr (fm_sI (by unfold scM; omega))), ?_, ?_⟩
                 · rw [gI_sM (by decide), gI_sS, es, if_pos ⟨by simpa using c_58, Or.inl c_67⟩]
                 · rw [gI_sS, es, if_pos ⟨by simpa using c_58, Or.inl c_67⟩])
              | (refine ih2 _ ⟨hfL.tr ((fm_sI (by unfold scM; omega)).tr (fm_sI (by unfold scM; omega))), ?_, ?_⟩
                 · rw [gI_sM (by decide), gI_sS, es, if_pos ⟨by simpa using c_58, Or.inr (by rw [i_lt]; rw [i_le] at c_75; omega)⟩]
                 · rw [gI_sS, es, if_pos ⟨by simpa using c_58, Or.inr (by rw [i_lt]; rw [i_le] at c_75; omega)⟩])
              | (refine ih2 _ ⟨hfL, ?_, ?_⟩
                 · rw [hL29, es, if_neg (fun y => y.2.elim (fun y => c_67 y) (fun y => by rw [i_lt] at y; rw [i_le] at c_75; omega))]
                 · rw [hL30, es, if_neg (fun y => y.2.elim (fun y => c_67 y) (fun y => by rw [i_lt] at y; rw [i_le] at c_75; omega))])
              | (refine ih2 _ ⟨hfL, ?_, ?_⟩
                 · rw [hL29, es, if_neg (fun y => by rw [c_58] at y; exact absurd y.1 (by decide))]
                 · rw [hL30, es, if_neg (fun y => by rw [c_58] at y; exact absurd y.1 (by decide))])
theorem r_moving {l : Launch} {D : va_G} {base : Nat} {h : Hp} (hr : Rel h) (w : Int32) : SI l D base M_Md_moving [.ref 42, .int w] h (fun g x => FM h g ∧ x = movF (laneS h 2) w) := by
  refine SP.of [some (.ref 42), some (.int w)] (by decide) rfl (Nat.le_of_ble_eq_true rfl) ?_
  obtain ⟨hSt, hF⟩ := hr.street
  have hw5 := hF.1.1
  have hm6 := hF.2.1.1
  have hF8 : WFS (pageS h 48) := by rw [← hSt]; exact hF
  have hP0 : pageS (sI h 42 0 0) 48 = pageS h 48 := fm_page fm_thr
  have hw := hr.w
  rw [hSt]
  by_cases h0 : w < 0 ∨ 1 < w
  · refine wh_aload_n (pc := 0) d_Md_moving_0 rfl rfl ?_
    refine wh_iconst (pc := 1) (v := 0) d_Md_moving_1 (by decide) ?_
    refine pf_Md_62 (pc := 2) rfl d_Md_moving_2 ?_
    refine wh_iload_n (pc := 5) d_Md_moving_5 rfl rfl ?_
    refine wh_i2l (pc := 6) d_Md_moving_6 ?_
    refine wh_lconst (pc := 7) (v := 0) d_Md_moving_7 (by decide) ?_
    refine wh_lconst (pc := 8) (v := 1) d_Md_moving_8 (by decide) ?_
    refine cs_Md_69_d (pc := 9) rfl d_Md_moving_9 ⟨⟨by decide, by decide⟩, rfl, rfl⟩ (m_in) (Nat.le_of_ble_eq_true rfl) ?_
    refine wh_if_ne (pc := 12) (tgt := 18) d_Md_moving_12 (by decide) (fun c_12 => absurd ((inL w 0 1 rfl rfl).mpr h0) c_12) (fun c_12 => ?_)
    refine wh_bipush (pc := 15) (v := (-2)) d_Md_moving_15 (by decide) ?_
    refine wh_iret (pc := 17) d_Md_moving_17 rfl ?_
    exact ⟨_, rfl, fm_thr, by unfold movF; rw [if_pos h0]⟩
  · refine wh_aload_n (pc := 0) d_Md_moving_0 rfl rfl ?_
    refine wh_iconst (pc := 1) (v := 0) d_Md_moving_1 (by decide) ?_
    refine pf_Md_62 (pc := 2) rfl d_Md_moving_2 ?_
    refine wh_iload_n (pc := 5) d_Md_moving_5 rfl rfl ?_
    refine wh_i2l (pc := 6) d_Md_moving_6 ?_
    refine wh_lconst (pc := 7) (v := 0) d_Md_moving_7 (by decide) ?_
    refine wh_lconst (pc := 8) (v := 1) d_Md_moving_8 (by decide) ?_
    refine cs_Md_69_d (pc := 9) rfl d_Md_moving_9 ⟨⟨by decide, by decide⟩, rfl, rfl⟩ (m_in) (Nat.le_of_ble_eq_true rfl) ?_
    refine wh_if_ne (pc := 12) (tgt := 18) d_Md_moving_12 (by decide) (fun c_12 => ?_) (fun c_12 => absurd c_12 (fun z => h0 ((inL w 0 1 rfl rfl).mp z)))
    refine wh_aload_n (pc := 18) d_Md_moving_18 rfl rfl ?_
    refine cv_Md_210_v (pc := 19) rfl d_Md_moving_19 ⟨⟨by decide, by decide⟩, rfl, rfl⟩ (r_findMoving hF8 fm_thr) (Nat.le_of_ble_eq_true rfl) (fun h_19 e_19 => ?_)
    refine wh_iload_n (pc := 22) d_Md_moving_22 rfl rfl ?_
    refine wh_if_ne (pc := 23) (tgt := 33) d_Md_moving_23 (by decide) (fun c_23 => ?_) (fun c_23 => ?_)
    · refine wh_aload_n (pc := 33) d_Md_moving_33 rfl rfl ?_
      refine gf_Md_204 (pc := 34) rfl d_Md_moving_34 ?_
      refine wh_iret (pc := 37) d_Md_moving_37 rfl ?_
      refine ⟨_, rfl, e_19.1, ?_⟩
      unfold movF
      rw [if_neg h0]
      first | (rw [if_pos c_23]; exact e_19.2.1) | (rw [if_neg c_23]; exact e_19.2.2)
    · refine wh_aload_n (pc := 26) d_Md_moving_26 rfl rfl ?_
      refine gf_Md_201 (pc := 27) rfl d_Md_moving_27 ?_
      refine wh_goto (pc := 30) (tgt := 37) d_Md_moving_30 (by decide) ?_
      refine wh_iret (pc := 37) d_Md_moving_37 rfl ?_
      refine ⟨_, rfl, e_19.1, ?_⟩
      unfold movF
      rw [if_neg h0]
      first | (rw [if_pos c_23]; exact e_19.2.1) | (rw [if_neg c_23]; exact e_19.2.2)
theorem x_moving {l : Launch} {D : va_G} {base : Nat} (w : Int32) : CMD l D base M_Lm_moving M_Md_moving [.int w] := CMD.q (fun h => movF (laneS h 2) w) (fun h h' f _ => by rw [fc_lane f]) (fun h hr => c_moving hr w) (fun h hr => r_moving hr w)

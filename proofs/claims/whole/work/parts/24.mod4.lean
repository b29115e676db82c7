theorem m_reads {l : Launch} {D : va_G} {base : Nat} {p : Nat} (hp0 : IsPage p) {h : Hp} {S : St} (hS : pageS h p = S) (hF : WFS S) {k : Nat} (hk : k < nW S) : SD l D base M_Md_reads [.ref 42, .ref p, .int (nI k)] h (some (.int (if readF S k then 1 else 0))) h := by
  refine SP.of [some (.ref 42), some (.ref p), some (.int (nI k)), none, none, none] (by decide) rfl (Nat.le_of_ble_eq_true rfl) ?_
  subst hS
  have hw5 := hF.1.1
  have hm6 := hF.2.1.1
  have hp := pg_sh hp0
  refine wh_cut (pcj := 14) (lsj := [some (.ref 42), some (.ref p), some (.int (nI k)), none, none, none]) (stj := [.int (if (decide (3 ≤ (pageS h p) 1 k) || anyN (fun o => decide (6 ≤ (pageS h p) 1 o) && nearF ((pageS h p) 0 o) ((pageS h p) 0 k)) 0) then 1 else 0)]) (hj := h) ?_ (fun j_14 => ?_)
  · refine wh_istore_n (pc := 14) (ls2 := [_, _, _, _, _, _]) d_Md_reads_14 rfl (by decide) rfl rfl ?_
    refine wh_iconst (pc := 15) (v := 0) d_Md_reads_15 (by decide) ?_
    refine wh_istore (pc := 16) (ls2 := [_, _, _, _, _, _]) d_Md_reads_16 (by decide) rfl rfl ?_
    refine wh_eq (wh_loop (nW (pageS h p)) (fun i => [some (.ref 42), some (.ref p), some (.int (nI k)), some (.int (if (decide (3 ≤ (pageS h p) 1 k) || anyN (fun o => decide (6 ≤ (pageS h p) 1 o) && nearF ((pageS h p) 0 o) ((pageS h p) 0 k)) i) then 1 else 0)), some (.int (nI i)), none]) (fun i => h) (fun i => True) ?_ ?_ 0 (Nat.zero_le _) trivial) ?_ rfl ?_
    · intro _
      refine wh_iload (pc := 18) d_Md_reads_18 rfl ?_
      refine wh_aload_n (pc := 20) d_Md_reads_20 rfl rfl ?_
      refine gf_Md_66 (pc := 21) rfl d_Md_reads_21 ?_
      refine wh_icmp_ge (pc := 24) (tgt := 83) d_Md_reads_24 (by decide) (fun c_24 => ?_) (fun c_24 => absurd (by rw [pf_w hF]; exact nI_le (Nat.le_refl _) (by omega)) c_24)
      refine wh_iload_n (pc := 83) d_Md_reads_83 rfl rfl ?_
      refine wh_zret (pc := 84) d_Md_reads_84 rfl (by cases (decide (3 ≤ (pageS h p) 1 k) || anyN (fun o => decide (6 ≤ (pageS h p) 1 o) && nearF ((pageS h p) 0 o) ((pageS h p) 0 k)) (nW (pageS h p))) <;> rfl) ?_
      exact ⟨rfl, rfl⟩
    · intro i hi _ ih
      obtain ⟨⟨p1, hp1, ep1⟩, -⟩ := hF.2.2.1 k hk
      obtain ⟨⟨p2, hp2, ep2⟩, -⟩ := hF.2.2.1 i hi
      have hnr := near_in p2 (by omega) p1 (by omega)
      rw [← ep1, ← ep2] at hnr
      refine wh_iload (pc := 18) d_Md_reads_18 rfl ?_
      refine wh_aload_n (pc := 20) d_Md_reads_20 rfl rfl ?_
      refine gf_Md_66 (pc := 21) rfl d_Md_reads_21 ?_
      refine wh_icmp_ge (pc := 24) (tgt := 83) d_Md_reads_24 (by decide) (fun c_24 => absurd c_24 (by rw [pf_w hF]; exact nI_ge hi (by omega))) (fun c_24 => ?_)
      refine wh_aload_n (pc := 27) d_Md_reads_27 rfl rfl ?_
      refine wh_bipush (pc := 28) (v := 19) d_Md_reads_28 (by decide) ?_
      refine wh_iload (pc := 30) d_Md_reads_30 rfl ?_
      refine wh_iadd (pc := 32) d_Md_reads_32 ?_
      refine wh_iald (pc := 33) d_Md_reads_33 hp (by first | exact in_nI (by omega) (by omega) | (simp only [a0, a5, a10, a19]; exact in_nI (by omega) (by omega)) | exact vp_in_iff.mpr (by decide)) ?_
      refine wh_aload_n (pc := 34) d_Md_reads_34 rfl rfl ?_
      refine wh_bipush (pc := 35) (v := 19) d_Md_reads_35 (by decide) ?_
      refine wh_iload_n (pc := 37) d_Md_reads_37 rfl rfl ?_
      refine wh_iadd (pc := 38) d_Md_reads_38 ?_
      refine wh_iald (pc := 39) d_Md_reads_39 hp (by first | exact in_nI (by omega) (by omega) | (simp only [a0, a5, a10, a19]; exact in_nI (by omega) (by omega)) | exact vp_in_iff.mpr (by decide)) ?_
      refine wh_isub (pc := 40) d_Md_reads_40 ?_
      refine wh_istore (pc := 41) (ls2 := [_, _, _, _, _, _]) d_Md_reads_41 (by decide) rfl rfl ?_
      refine wh_cut (pcj := 76) (lsj := [some (.ref 42), some (.ref p), some (.int (nI k)), some (.int (if (decide (3 ≤ (pageS h p) 1 k) || anyN (fun o => decide (6 ≤ (pageS h p) 1 o) && nearF ((pageS h p) 0 o) ((pageS h p) 0 k)) i) then 1 else 0)), some (.int (nI i)), some (.int (gI h p (19 + nI i).toNatClampNeg - gI h p (19 + nI k).toNatClampNeg))]) (stj := [.int (if (decide (3 ≤ (pageS h p) 1 k) || anyN (fun o => decide (6 ≤ (pageS h p) 1 o) && nearF ((pageS h p) 0 o) ((pageS h p) 0 k)) (i + 1)) then 1 else 0)]) (hj := h) ?_ (fun j_76 => ?_)
      · refine wh_istore_n (pc := 76) (ls2 := [_, _, _, _, _, _]) d_Md_reads_76 rfl (by decide) rfl rfl ?_
        refine wh_iinc (pc := 77) (ls2 := [_, _, _, _, _, _]) d_Md_reads_77 rfl (nI_inc _) (by decide) rfl rfl ?_
        refine wh_goto (pc := 80) (tgt := 18) d_Md_reads_80 (by decide) ?_
        refine wh_drop (i := 5) (ls2 := [_, _, _, _, _, _]) rfl ?_
        exact ih trivial
      · refine wh_iload_n (pc := 43) d_Md_reads_43 rfl rfl ?_
        refine wh_if_ne (pc := 44) (tgt := 71) d_Md_reads_44 (by decide) (fun c_44 => ?_) (fun c_44 => ?_)
        · refine wh_iconst (pc := 71) (v := 1) d_Md_reads_71 (by decide) ?_
          refine wh_goto (pc := 72) (tgt := 76) d_Md_reads_72 (by decide) ?_
          refine wh_eq j_76 rfl ?_ rfl
          have es : anyN (fun o => decide (6 ≤ (pageS h p) 1 o) && nearF ((pageS h p) 0 o) ((pageS h p) 0 k)) (i + 1) = (anyN (fun o => decide (6 ≤ (pageS h p) 1 o) && nearF ((pageS h p) 0 o) ((pageS h p) 0 k)) i || (decide (6 ≤ (pageS h p) 1 i) && nearF ((pageS h p) 0 i) ((pageS h p) 0 k))) := rfl
          rw [es, ← Bool.or_assoc]
          generalize (decide (3 ≤ (pageS h p) 1 k) || anyN (fun o => decide (6 ≤ (pageS h p) 1 o) && nearF ((pageS h p) 0 o) ((pageS h p) 0 k)) i) = acc at *
          simp only [a0, a19, cl_nI (show k < 2 ^ 31 by omega), cl_nI (show i < 2 ^ 31 by omega), cl_nI (show 19 + k < 2 ^ 31 by omega), cl_nI (show 19 + i < 2 ^ 31 by omega), pa0 hk, pa1 hk, pa0 hi, pa1 hi] at *
          cases acc
          · first
              | (exact absurd rfl c_44)
              | (have h1 : nearF ((pageS h p) 0 i) ((pageS h p) 0 k) = false := hnr.mp c_57; rw [h1, Bool.and_false]; rfl)
              | (have h1 : decide (6 ≤ (pageS h p) 1 i) = false := by simp only [decide_eq_false_iff_not]; rw [i_lt] at c_68; rw [i_le]; omega
                 rw [h1, Bool.false_and]; rfl)
              | (have h1 : decide (6 ≤ (pageS h p) 1 i) = true := by first | (simp only [decide_eq_true_eq]; done) | (simp only [decide_eq_true_eq]; rw [i_lt] at c_68; rw [i_le]; omega)
                 have h2 : nearF ((pageS h p) 0 i) ((pageS h p) 0 k) = true := by cases z : nearF ((pageS h p) 0 i) ((pageS h p) 0 k); exact absurd (hnr.mpr z) c_57; rfl
                 rw [h1, h2]; try rfl)
          · first | rfl | (exact absurd c_44 (by decide))
        · refine wh_iload (pc := 47) d_Md_reads_47 rfl ?_
          refine wh_i2l (pc := 49) d_Md_reads_49 ?_
          refine wh_ldc2 (pc := 50) d_Md_reads_50 kc_Md_138 ?_
          refine wh_lconst (pc := 53) (v := 1) d_Md_reads_53 (by decide) ?_
          refine cs_Md_69_d (pc := 54) rfl d_Md_reads_54 ⟨⟨by decide, by decide⟩, rfl, rfl⟩ (m_in) (Nat.le_of_ble_eq_true rfl) ?_
          refine wh_if_eq (pc := 57) (tgt := 75) d_Md_reads_57 (by decide) (fun c_57 => ?_) (fun c_57 => ?_)
          · refine wh_iconst (pc := 75) (v := 0) d_Md_reads_75 (by decide) ?_
            refine wh_eq j_76 rfl ?_ rfl
            have es : anyN (fun o => decide (6 ≤ (pageS h p) 1 o) && nearF ((pageS h p) 0 o) ((pageS h p) 0 k)) (i + 1) = (anyN (fun o => decide (6 ≤ (pageS h p) 1 o) && nearF ((pageS h p) 0 o) ((pageS h p) 0 k)) i || (decide (6 ≤ (pageS h p) 1 i) && nearF ((pageS h p) 0 i) ((pageS h p) 0 k))) := rfl
            rw [es, ← Bool.or_assoc]
            generalize (decide (3 ≤ (pageS h p) 1 k) || anyN (fun o => decide (6 ≤ (pageS h p) 1 o) && nearF ((pageS h p) 0 o) ((pageS h p) 0 k)) i) = acc at *
            simp only [a0, a19, cl_nI (show k < 2 ^ 31 by omega), cl_nI (show i < 2 ^ 31 by omega), cl_nI (show 19 + k < 2 ^ 31 by omega), cl_nI (show 19 + i < 2 ^ 31 by omega), pa0 hk, pa1 hk, pa0 hi, pa1 hi] at *
            cases acc
            · first
                | (exact absurd rfl c_44)
                | (have h1 : nearF ((pageS h p) 0 i) ((pageS h p) 0 k) = false := hnr.mp c_57; rw [h1, Bool.and_false]; rfl)
                | (have h1 : decide (6 ≤ (pageS h p) 1 i) = false := by simp only [decide_eq_false_iff_not]; rw [i_lt] at c_68; rw [i_le]; omega
                   rw [h1, Bool.false_and]; rfl)
                | (have h1 : decide (6 ≤ (pageS h p) 1 i) = true := by first | (simp only [decide_eq_true_eq]; done) | (simp only [decide_eq_true_eq]; rw [i_lt] at c_68; rw [i_le]; omega)
                   have h2 : nearF ((pageS h p) 0 i) ((pageS h p) 0 k) = true := by cases z : nearF ((pageS h p) 0 i) ((pageS h p) 0 k); exact absurd (hnr.mpr z) c_57; rfl
                   rw [h1, h2]; try rfl)
            · first | rfl | (exact absurd c_44 (by decide))
          · refine wh_aload_n (pc := 60) d_Md_reads_60 rfl rfl ?_
            refine wh_iconst (pc := 61) (v := 0) d_Md_reads_61 (by decide) ?_
            refine wh_iload (pc := 62) d_Md_reads_62 rfl ?_
            refine wh_iadd (pc := 64) d_Md_reads_64 ?_
            refine wh_iald (pc := 65) d_Md_reads_65 hp (by first | exact in_nI (by omega) (by omega) | (simp only [a0, a5, a10, a19]; exact in_nI (by omega) (by omega)) | exact vp_in_iff.mpr (by decide)) ?_
            refine wh_bipush (pc := 66) (v := 6) d_Md_reads_66 (by decide) ?_
            refine wh_icmp_lt (pc := 68) (tgt := 75) d_Md_reads_68 (by decide) (fun c_68 => ?_) (fun c_68 => ?_)
            · refine wh_iconst (pc := 75) (v := 0) d_Md_reads_75 (by decide) ?_
              refine wh_eq j_76 rfl ?_ rfl
              have es : anyN (fun o => decide (6 ≤ (pageS h p) 1 o) && nearF ((pageS h p) 0 o) ((pageS h p) 0 k)) (i + 1) = (anyN (fun o => decide (6 ≤ (pageS h p) 1 o) && nearF ((pageS h p) 0 o) ((pageS h p) 0 k)) i || (decide (6 ≤ (pageS h p) 1 i) && nearF ((pageS h p) 0 i) ((pageS h p) 0 k))) := rfl
              rw [es, ← Bool.or_assoc]
              generalize (decide (3 ≤ (pageS h p) 1 k) || anyN (fun o => decide (6 ≤ (pageS h p) 1 o) && nearF ((pageS h p) 0 o) ((pageS h p) 0 k)) i) = acc at *
              simp only [a0, a19, cl_nI (show k < 2 ^ 31 by omega), cl_nI (show i < 2 ^ 31 by omega), cl_nI (show 19 + k < 2 ^ 31 by omega), cl_nI (show 19 + i < 2 ^ 31 by omega), pa0 hk, pa1 hk, pa0 hi, pa1 hi] at *
              cases acc
              · first
                  | (exact absurd rfl c_44)
                  | (have h1 : nearF ((pageS h p) 0 i) ((pageS h p) 0 k) = false := hnr.mp c_57; rw [h1, Bool.and_false]; rfl)
                  | (have h1 : decide (6 ≤ (pageS h p) 1 i) = false := by simp only [decide_eq_false_iff_not]; rw [i_lt] at c_68; rw [i_le]; omega
                     rw [h1, Bool.false_and]; rfl)
                  | (have h1 : decide (6 ≤ (pageS h p) 1 i) = true := by first | (simp only [decide_eq_true_eq]; done) | (simp only [decide_eq_true_eq]; rw [i_lt] at c_68; rw [i_le]; omega)
                     have h2 : nearF ((pageS h p) 0 i) ((pageS h p) 0 k) = true := by cases z : nearF ((pageS h p) 0 i) ((pageS h p) 0 k); exact absurd (hnr.mpr z) c_57; rfl
                     rw [h1, h2]; try rfl)
              · first | rfl | (exact absurd c_44 (by decide))
            · refine wh_iconst (pc := 71) (v := 1) d_Md_reads_71 (by decide) ?_
              refine wh_goto (pc := 72) (tgt := 76) d_Md_reads_72 (by decide) ?_
              refine wh_eq j_76 rfl ?_ rfl
              have es : anyN (fun o => decide (6 ≤ (pageS h p) 1 o) && nearF ((pageS h p) 0 o) ((pageS h p) 0 k)) (i + 1) = (anyN (fun o => decide (6 ≤ (pageS h p) 1 o) && nearF ((pageS h p) 0 o) ((pageS h p) 0 k)) i || (decide (6 ≤ (pageS h p) 1 i) && nearF ((pageS h p) 0 i) ((pageS h p) 0 k))) := rfl
              rw [es, ← Bool.or_assoc]
              generalize (decide (3 ≤ (pageS h p) 1 k) || anyN (fun o => decide (6 ≤ (pageS h p) 1 o) && nearF ((pageS h p) 0 o) ((pageS h p) 0 k)) i) = acc at *
              simp only [a0, a19, cl_nI (show k < 2 ^ 31 by omega), cl_nI (show i < 2 ^ 31 by omega), cl_nI (show 19 + k < 2 ^ 31 by omega), cl_nI (show 19 + i < 2 ^ 31 by omega), pa0 hk, pa1 hk, pa0 hi, pa1 hi] at *
              cases acc
              · first
                  | (exact absurd rfl c_44)
                  | (have h1 : nearF ((pageS h p) 0 i) ((pageS h p) 0 k) = false := hnr.mp c_57; rw [h1, Bool.and_false]; rfl)
                  | (have h1 : decide (6 ≤ (pageS h p) 1 i) = false := by simp only [decide_eq_false_iff_not]; rw [i_lt] at c_68; rw [i_le]; omega
                     rw [h1, Bool.false_and]; rfl)
                  | (have h1 : decide (6 ≤ (pageS h p) 1 i) = true := by first | (simp only [decide_eq_true_eq]; done) | (simp only [decide_eq_true_eq]; rw [i_lt] at c_68; rw [i_le]; omega)
                     have h2 : nearF ((pageS h p) 0 i) ((pageS h p) 0 k) = true := by cases z : nearF ((pageS h p) 0 i) ((pageS h p) 0 k); exact absurd (hnr.mpr z) c_57; rfl
                     rw [h1, h2]; try rfl)
              · first | rfl | (exact absurd c_44 (by decide))
    · rfl
    · rfl
  · refine wh_aload_n (pc := 0) d_Md_reads_0 rfl rfl ?_
    refine wh_iconst (pc := 1) (v := 0) d_Md_reads_1 (by decide) ?_
    refine wh_iload_n (pc := 2) d_Md_reads_2 rfl rfl ?_
    refine wh_iadd (pc := 3) d_Md_reads_3 ?_
    refine wh_iald (pc := 4) d_Md_reads_4 hp (by first | exact in_nI (by omega) (by omega) | (simp only [a0, a5, a10, a19]; exact in_nI (by omega) (by omega)) | exact vp_in_iff.mpr (by decide)) ?_
    refine wh_iconst (pc := 5) (v := 3) d_Md_reads_5 (by decide) ?_
    refine wh_icmp_lt (pc := 6) (tgt := 13) d_Md_reads_6 (by decide) (fun c_6 => ?_) (fun c_6 => ?_)
    · refine wh_iconst (pc := 13) (v := 0) d_Md_reads_13 (by decide) ?_
      refine wh_eq j_14 rfl ?_ rfl
      rw [a0, cl_nI (show k < 2 ^ 31 by omega), pa1 hk] at c_6
      first
        | (have hc : decide (3 ≤ (pageS h p) 1 k) = false := by simp only [decide_eq_false_iff_not]; rw [i_lt] at c_6; rw [i_le]; omega
           rw [hc]; rfl)
        | (have hc : decide (3 ≤ (pageS h p) 1 k) = true := by simp only [decide_eq_true_eq]; rw [i_lt] at c_6; rw [i_le]; omega
           rw [hc]; rfl)
    · refine wh_iconst (pc := 9) (v := 1) d_Md_reads_9 (by decide) ?_
      refine wh_goto (pc := 10) (tgt := 14) d_Md_reads_10 (by decide) ?_
      refine wh_eq j_14 rfl ?_ rfl
      rw [a0, cl_nI (show k < 2 ^ 31 by omega), pa1 hk] at c_6
      first
        | (have hc : decide (3 ≤ (pageS h p) 1 k) = false := by simp only [decide_eq_false_iff_not]; rw [i_lt] at c_6; rw [i_le]; omega
           rw [hc]; rfl)
        | (have hc : decide (3 ≤ (pageS h p) 1 k) = true := by simp only [decide_eq_true_eq]; rw [i_lt] at c_6; rw [i_le]; omega
           rw [hc]; rfl)
theorem m_readers {l : Launch} {D : va_G} {base : Nat} {p : Nat} (hp0 : IsPage p) {h : Hp} {S : St} (hS : pageS h p = S) (hF : WFS S) : SD l D base M_Md_readers [.ref 42, .ref p] h (some (.int (readersF S))) h := by
  refine SP.of [some (.ref 42), some (.ref p), none, none] (by decide) rfl (Nat.le_of_ble_eq_true rfl) ?_
  subst hS
  have hw5 := hF.1.1
  have hm6 := hF.2.1.1
  have hp := pg_sh hp0
  refine wh_iconst (pc := 0) (v := 0) d_Md_readers_0 (by decide) ?_
  refine wh_istore_n (pc := 1) (ls2 := [_, _, _, _]) d_Md_readers_1 rfl (by decide) rfl rfl ?_
  refine wh_iconst (pc := 2) (v := 0) d_Md_readers_2 (by decide) ?_
  refine wh_istore_n (pc := 3) (ls2 := [_, _, _, _]) d_Md_readers_3 rfl (by decide) rfl rfl ?_
  refine wh_eq (wh_loop (nW (pageS h p)) (fun i => [some (.ref 42), some (.ref p), some (.int (orN (readF (pageS h p)) i)), some (.int (nI i))]) (fun i => h) (fun i => True) ?_ ?_ 0 (Nat.zero_le _) trivial) ?_ rfl ?_
  · intro _
    refine wh_iload_n (pc := 4) d_Md_readers_4 rfl rfl ?_
    refine wh_aload_n (pc := 5) d_Md_readers_5 rfl rfl ?_
    refine gf_Md_66 (pc := 6) rfl d_Md_readers_6 ?_
    refine wh_icmp_ge (pc := 9) (tgt := 37) d_Md_readers_9 (by decide) (fun c_9 => ?_) (fun c_9 => absurd (by rw [pf_w hF]; exact nI_le (Nat.le_refl _) (by omega)) c_9)
    refine wh_iload_n (pc := 37) d_Md_readers_37 rfl rfl ?_
    refine wh_iret (pc := 38) d_Md_readers_38 rfl ?_
    exact ⟨rfl, rfl⟩
  · intro i hi _ ih
    refine wh_iload_n (pc := 4) d_Md_readers_4 rfl rfl ?_
    refine wh_aload_n (pc := 5) d_Md_readers_5 rfl rfl ?_
    refine gf_Md_66 (pc := 6) rfl d_Md_readers_6 ?_
    refine wh_icmp_ge (pc := 9) (tgt := 37) d_Md_readers_9 (by decide) (fun c_9 => absurd c_9 (by rw [pf_w hF]; exact nI_ge hi (by omega))) (fun c_9 => ?_)
    refine wh_iload_n (pc := 12) d_Md_readers_12 rfl rfl ?_
    refine wh_cut (pcj := 29) (lsj := [some (.ref 42), some (.ref p), some (.int (orN (readF (pageS h p)) i)), some (.int (nI i))]) (stj := [.int (if readF (pageS h p) i then 1 <<< (nI i &&& 31) else 0), .int (orN (readF (pageS h p)) i)]) (hj := h) ?_ (fun j_29 => ?_)
    · refine wh_ior (pc := 29) d_Md_readers_29 ?_
      refine wh_istore_n (pc := 30) (ls2 := [_, _, _, _]) d_Md_readers_30 rfl (by decide) rfl rfl ?_
      refine wh_iinc (pc := 31) (ls2 := [_, _, _, _]) d_Md_readers_31 rfl (nI_inc _) (by decide) rfl rfl ?_
      refine wh_goto (pc := 34) (tgt := 4) d_Md_readers_34 (by decide) ?_
      refine wh_eq (ih trivial) ?_ rfl rfl
      have es : orN (readF (pageS h p)) (i + 1) = if readF (pageS h p) i then orN (readF (pageS h p)) i ||| (1 <<< (nI i &&& 31)) else orN (readF (pageS h p)) i := rfl
      rw [es]
      cases readF (pageS h p) i
      · simp only [Bool.false_eq_true, if_false, Int32.or_zero]
      · rfl
    · refine wh_aload_n (pc := 13) d_Md_readers_13 rfl rfl ?_
      refine wh_aload_n (pc := 14) d_Md_readers_14 rfl rfl ?_
      refine wh_iload_n (pc := 15) d_Md_readers_15 rfl rfl ?_
      refine cv_Md_140_d (pc := 16) rfl d_Md_readers_16 ⟨⟨by decide, by decide⟩, rfl, rfl⟩ (m_reads hp0 rfl hF hi) (Nat.le_of_ble_eq_true rfl) ?_
      refine wh_if_eq (pc := 19) (tgt := 28) d_Md_readers_19 (by decide) (fun c_19 => ?_) (fun c_19 => ?_)
      · refine wh_iconst (pc := 28) (v := 0) d_Md_readers_28 (by decide) ?_
        refine wh_eq j_29 rfl ?_ rfl
        cases z : readF (pageS h p) i
        · rw [z] at c_19; first | rfl | exact absurd rfl c_19
        · rw [z] at c_19; first | rfl | exact absurd c_19 (by decide)
      · refine wh_iconst (pc := 22) (v := 1) d_Md_readers_22 (by decide) ?_
        refine wh_iload_n (pc := 23) d_Md_readers_23 rfl rfl ?_
        refine wh_ishl (pc := 24) d_Md_readers_24 ?_
        refine wh_goto (pc := 25) (tgt := 29) d_Md_readers_25 (by decide) ?_
        refine wh_eq j_29 rfl ?_ rfl
        cases z : readF (pageS h p) i
        · rw [z] at c_19; first | rfl | exact absurd rfl c_19
        · rw [z] at c_19; first | rfl | exact absurd c_19 (by decide)
  · rfl
  · rfl
theorem m_paid {l : Launch} {D : va_G} {base : Nat} {p : Nat} (hp0 : IsPage p) {h : Hp} : SD l D base M_Md_paid [.ref 42, .ref p] h (some (.int (smN (fun k => gI h p (5 + k)) 5))) h := by
  refine SP.of [some (.ref 42), some (.ref p), none, none] (by decide) rfl (Nat.le_of_ble_eq_true rfl) ?_
  have hp := pg_sh hp0
  refine wh_iconst (pc := 0) (v := 0) d_Md_paid_0 (by decide) ?_
  refine wh_istore_n (pc := 1) (ls2 := [_, _, _, _]) d_Md_paid_1 rfl (by decide) rfl rfl ?_
  refine wh_iconst (pc := 2) (v := 0) d_Md_paid_2 (by decide) ?_
  refine wh_istore_n (pc := 3) (ls2 := [_, _, _, _]) d_Md_paid_3 rfl (by decide) rfl rfl ?_
  refine wh_eq (wh_loop (5) (fun i => [some (.ref 42), some (.ref p), some (.int (smN (fun k => gI h p (5 + k)) i)), some (.int (nI i))]) (fun i => h) (fun i => True) ?_ ?_ 0 (Nat.zero_le _) trivial) ?_ rfl ?_
  · intro _
    refine wh_iload_n (pc := 4) d_Md_paid_4 rfl rfl ?_
    refine wh_iconst (pc := 5) (v := 5) d_Md_paid_5 (by decide) ?_
    refine wh_icmp_ge (pc := 6) (tgt := 23) d_Md_paid_6 (by decide) (fun c_6 => ?_) (fun c_6 => absurd (by decide) c_6)
    refine wh_iload_n (pc := 23) d_Md_paid_23 rfl rfl ?_
    refine wh_iret (pc := 24) d_Md_paid_24 rfl ?_
    exact ⟨rfl, rfl⟩
  · intro i hi _ ih
    refine wh_iload_n (pc := 4) d_Md_paid_4 rfl rfl ?_
    refine wh_iconst (pc := 5) (v := 5) d_Md_paid_5 (by decide) ?_
    refine wh_icmp_ge (pc := 6) (tgt := 23) d_Md_paid_6 (by decide) (fun c_6 => absurd c_6 (nI_ge hi (by decide))) (fun c_6 => ?_)
    refine wh_iload_n (pc := 9) d_Md_paid_9 rfl rfl ?_
    refine wh_aload_n (pc := 10) d_Md_paid_10 rfl rfl ?_
    refine wh_iconst (pc := 11) (v := 5) d_Md_paid_11 (by decide) ?_
    refine wh_iload_n (pc := 12) d_Md_paid_12 rfl rfl ?_
    refine wh_iadd (pc := 13) d_Md_paid_13 ?_
    refine wh_iald (pc := 14) d_Md_paid_14 hp (by first | exact in_nI (by omega) (by omega) | (simp only [a0, a5, a10, a19]; exact in_nI (by omega) (by omega)) | exact vp_in_iff.mpr (by decide)) ?_
    refine wh_iadd (pc := 15) d_Md_paid_15 ?_
    refine wh_istore_n (pc := 16) (ls2 := [_, _, _, _]) d_Md_paid_16 rfl (by decide) rfl rfl ?_
    refine wh_iinc (pc := 17) (ls2 := [_, _, _, _]) d_Md_paid_17 rfl (nI_inc _) (by decide) rfl rfl ?_
    refine wh_goto (pc := 20) (tgt := 4) d_Md_paid_20 (by decide) ?_
    refine wh_eq (ih trivial) ?_ rfl rfl
    rw [a5, cl_nI (by omega)]
    rfl
  · rfl
  · rfl
theorem m_least {l : Launch} {D : va_G} {base : Nat} {h : Hp} {n : Nat} (hn : gI h 42 4 = nI n) (h5 : n ≤ 5) {d : Int32} : SD l D base M_Md_leastOf [.ref 42, .int d] h (some (.int (lstN d n n))) h := by
  refine SP.of [some (.ref 42), some (.int d), none, none] (by decide) rfl (Nat.le_of_ble_eq_true rfl) ?_
  refine wh_bipush (pc := 0) (v := (-9)) d_Md_leastOf_0 (by decide) ?_
  refine wh_istore_n (pc := 2) (ls2 := [_, _, _, _]) d_Md_leastOf_2 rfl (by decide) rfl rfl ?_
  refine wh_aload_n (pc := 3) d_Md_leastOf_3 rfl rfl ?_
  refine gf_Md_66 (pc := 4) rfl d_Md_leastOf_4 ?_
  refine wh_iconst (pc := 7) (v := 1) d_Md_leastOf_7 (by decide) ?_
  refine wh_isub (pc := 8) d_Md_leastOf_8 ?_
  refine wh_istore_n (pc := 9) (ls2 := [_, _, _, _]) d_Md_leastOf_9 rfl (by decide) rfl rfl ?_
  refine wh_eq (wh_loop n (fun t => [some (.ref 42), some (.int d), some (.int (lstN d n t)), some (.int (nI n - 1 - nI t))]) (fun _ => h) (fun _ => True) ?_ ?_ 0 (Nat.zero_le _) trivial) ?_ rfl ?_
  · intro _
    refine wh_iload_n (pc := 10) d_Md_leastOf_10 rfl rfl ?_
    refine wh_if_lt (pc := 11) (tgt := 34) d_Md_leastOf_11 (by decide) (fun c_11 => ?_) (fun c_11 => absurd (down_z _) c_11)
    refine wh_iload_n (pc := 34) d_Md_leastOf_34 rfl rfl ?_
    refine wh_iret (pc := 35) d_Md_leastOf_35 rfl ?_
    exact ⟨rfl, rfl⟩
  · intro t hi _ ih
    have hd := down_n hi (show n < 2 ^ 30 by omega)
    refine wh_iload_n (pc := 10) d_Md_leastOf_10 rfl rfl ?_
    refine wh_if_lt (pc := 11) (tgt := 34) d_Md_leastOf_11 (by decide) (fun c_11 => absurd c_11 (by rw [hd]; exact nI_pos (by omega))) (fun c_11 => ?_)
    refine wh_iload_n (pc := 14) d_Md_leastOf_14 rfl rfl ?_
    refine wh_iload_n (pc := 15) d_Md_leastOf_15 rfl rfl ?_
    refine cs_Md_130_d (pc := 16) rfl d_Md_leastOf_16 ⟨⟨by decide, by decide⟩, rfl, rfl⟩ ((show SD l D base M_Md_has [.int d, .int (nI n - 1 - nI t)] h (some (.int (if hasB d (n - 1 - t) then 1 else 0))) h by rw [hd]; exact m_has)) (Nat.le_of_ble_eq_true rfl) ?_
    refine wh_if_eq (pc := 19) (tgt := 26) d_Md_leastOf_19 (by decide) (fun c_19 => ?_) (fun c_19 => ?_)
    · refine wh_iload_n (pc := 26) d_Md_leastOf_26 rfl rfl ?_
      refine wh_istore_n (pc := 27) (ls2 := [_, _, _, _]) d_Md_leastOf_27 rfl (by decide) rfl rfl ?_
      refine wh_iinc (pc := 28) (ls2 := [_, _, _, _]) d_Md_leastOf_28 rfl rfl (by decide) rfl rfl ?_
      refine wh_goto (pc := 31) (tgt := 10) d_Md_leastOf_31 (by decide) ?_
      refine wh_eq (ih trivial) ?_ rfl rfl
      rw [down_1 hi]
      have es : lstN d n (t + 1) = if hasB d (n - 1 - t) then nI (n - 1 - t) else lstN d n t := rfl
      rw [es]
      cases z : hasB d (n - 1 - t)
      · rw [z] at c_19; first | rfl | exact absurd rfl c_19
      · rw [z] at c_19; first | (rw [hd]; rfl) | exact absurd c_19 (by decide)
    · refine wh_iload_n (pc := 22) d_Md_leastOf_22 rfl rfl ?_
      refine wh_goto (pc := 23) (tgt := 27) d_Md_leastOf_23 (by decide) ?_
      refine wh_istore_n (pc := 27) (ls2 := [_, _, _, _]) d_Md_leastOf_27 rfl (by decide) rfl rfl ?_
      refine wh_iinc (pc := 28) (ls2 := [_, _, _, _]) d_Md_leastOf_28 rfl rfl (by decide) rfl rfl ?_
      refine wh_goto (pc := 31) (tgt := 10) d_Md_leastOf_31 (by decide) ?_
      refine wh_eq (ih trivial) ?_ rfl rfl
      rw [down_1 hi]
      have es : lstN d n (t + 1) = if hasB d (n - 1 - t) then nI (n - 1 - t) else lstN d n t := rfl
      rw [es]
      cases z : hasB d (n - 1 - t)
      · rw [z] at c_19; first | rfl | exact absurd rfl c_19
      · rw [z] at c_19; first | (rw [hd]; rfl) | exact absurd c_19 (by decide)
  · rw [nI_0, Int32.sub_zero, hn]; rfl
  · rfl
theorem m_night {l : Launch} {D : va_G} {base : Nat} {p : Nat} (hp0 : IsPage p) {h : Hp} {S : St} (hS : pageS h p = S) (hF : WFS S) : SD l D base M_Md_goNight [.ref 42, .ref p] h (some (.int (allF S))) (ntP h p) := by
  refine SP.of [some (.ref 42), some (.ref p), none, none, none, none] (by decide) rfl (Nat.le_of_ble_eq_true rfl) ?_
  subst hS
  have hw5 := hF.1.1
  have hm6 := hF.2.1.1
  have hp := pg_sh hp0
  have hp56 : p ≠ 56 := by rcases hp0 with rfl | rfl <;> decide
  have hp57 : p ≠ 57 := by rcases hp0 with rfl | rfl <;> decide
  have hp42 : 42 ≠ p := by rcases hp0 with rfl | rfl <;> decide
  have hn6 : ∀ i, gI (fillO (fillO (layH h p) p 5 (fun k => gI h p (5 + k) + owedF (pageS h p) k) (nW (pageS h p))) p 10 (fun j => (pageS h p) 3 j + stepF (pageS h p) j) i) 42 6 = nI (nM (pageS h p)) := fun i => by rw [fo_N hp42, fo_N hp42, lay_N (by decide) (by decide), pf_m hF]
  have hn4 : ∀ i, gI (fillO (fillO (layH h p) p 5 (fun k => gI h p (5 + k) + owedF (pageS h p) k) (nW (pageS h p))) p 10 (fun j => (pageS h p) 3 j + stepF (pageS h p) j) i) 42 4 = nI (nW (pageS h p)) := fun i => by rw [fo_N hp42, fo_N hp42, lay_N (by decide) (by decide), pf_w hF]
  refine wh_aload_n (pc := 0) d_Md_goNight_0 rfl rfl ?_
  refine wh_aload_n (pc := 1) d_Md_goNight_1 rfl rfl ?_
  refine cv_Md_148_d (pc := 2) rfl d_Md_goNight_2 ⟨⟨by decide, by decide⟩, rfl, rfl⟩ (m_lay hp0 rfl hF) (Nat.le_of_ble_eq_true rfl) ?_
  refine wh_istore_n (pc := 5) (ls2 := [_, _, _, _, _, _]) d_Md_goNight_5 rfl (by decide) rfl rfl ?_
  refine wh_iconst (pc := 6) (v := 0) d_Md_goNight_6 (by decide) ?_
  refine wh_istore_n (pc := 7) (ls2 := [_, _, _, _, _, _]) d_Md_goNight_7 rfl (by decide) rfl rfl ?_
  refine wh_eq (wh_loop (nW (pageS h p)) (fun i => [some (.ref 42), some (.ref p), some (.int (allF (pageS h p))), some (.int (nI i)), none, none]) (fun i => fillO (layH h p) p 5 (fun k => gI h p (5 + k) + owedF (pageS h p) k) i) (fun i => True) ?_ ?_ 0 (Nat.zero_le _) trivial) rfl rfl (fo_0 _ _ _ _).symm
  · intro _
    refine wh_iload_n (pc := 8) d_Md_goNight_8 rfl rfl ?_
    refine wh_aload_n (pc := 9) d_Md_goNight_9 rfl rfl ?_
    refine gf_Md_66 (pc := 10) rfl d_Md_goNight_10 ?_
    refine wh_icmp_ge (pc := 13) (tgt := 36) d_Md_goNight_13 (by decide) (fun c_13 => ?_) (fun c_13 => absurd (by rw [fo_N hp42, lay_N (by decide) (by decide), pf_w hF]; exact nI_le (Nat.le_refl _) (by omega)) c_13)
    refine wh_iconst (pc := 36) (v := 0) d_Md_goNight_36 (by decide) ?_
    refine wh_istore_n (pc := 37) (ls2 := [_, _, _, _, _, _]) d_Md_goNight_37 rfl (by decide) rfl rfl ?_
    refine wh_eq (wh_loop (nM (pageS h p)) (fun i => [some (.ref 42), some (.ref p), some (.int (allF (pageS h p))), some (.int (nI i)), none, none]) (fun i => fillO (fillO (layH h p) p 5 (fun k => gI h p (5 + k) + owedF (pageS h p) k) (nW (pageS h p))) p 10 (fun j => (pageS h p) 3 j + stepF (pageS h p) j) i) (fun i => True) ?_ ?_ 0 (Nat.zero_le _) trivial) rfl rfl (fo_0 _ _ _ _).symm
    · intro _
      refine wh_iload_n (pc := 38) d_Md_goNight_38 rfl rfl ?_
      refine wh_aload_n (pc := 39) d_Md_goNight_39 rfl rfl ?_
      refine gf_Md_73 (pc := 40) rfl d_Md_goNight_40 ?_
      refine wh_icmp_ge (pc := 43) (tgt := 129) d_Md_goNight_43 (by decide) (fun c_43 => ?_) (fun c_43 => absurd (by rw [hn6]; exact nI_le (Nat.le_refl _) (by omega)) c_43)
      refine wh_aload_n (pc := 129) d_Md_goNight_129 rfl rfl ?_
      refine wh_bipush (pc := 130) (v := 18) d_Md_goNight_130 (by decide) ?_
      refine wh_dup2 (pc := 132) d_Md_goNight_132 rfl rfl ?_
      refine wh_iald (pc := 133) d_Md_goNight_133 hp (by first | exact in_nI (by omega) (by omega) | (simp only [a0, a5, a10, a19]; exact in_nI (by omega) (by omega)) | exact vp_in_iff.mpr (by decide)) ?_
      refine wh_iconst (pc := 134) (v := 1) d_Md_goNight_134 (by decide) ?_
      refine wh_iadd (pc := 135) d_Md_goNight_135 ?_
      refine wh_iast (pc := 136) d_Md_goNight_136 hp (by first | exact in_nI (by omega) (by omega) | (simp only [a0, a5, a10, a19]; exact in_nI (by omega) (by omega)) | exact vp_in_iff.mpr (by decide)) ?_
      refine wh_iload_n (pc := 137) d_Md_goNight_137 rfl rfl ?_
      refine wh_iret (pc := 138) d_Md_goNight_138 rfl ?_
      refine ⟨?_, rfl⟩
      show sI _ p 18 _ = ntP h p
      rw [show gI (fillO (fillO (layH h p) p 5 (fun k => gI h p (5 + k) + owedF (pageS h p) k) (nW (pageS h p))) p 10 (fun j => (pageS h p) 3 j + stepF (pageS h p) j) (nM (pageS h p))) p (Int32.toNatClampNeg 18) = gI h p 18 from (fo_O (j := 18) (Or.inr (by omega))).trans ((fo_O (j := 18) (Or.inr (by omega))).trans (lay_N hp56 hp57))]
      rfl
    · intro i hi _ ih
      have eS : gI (fillO (fillO (layH h p) p 5 (fun k => gI h p (5 + k) + owedF (pageS h p) k) (nW (pageS h p))) p 10 (fun j => (pageS h p) 3 j + stepF (pageS h p) j) i) p (10 + i) = (pageS h p) 3 i := by rw [fo_O (by omega), fo_O (by omega), lay_N hp56 hp57, pa3 hi]
      have eP : ∀ k, k < nW (pageS h p) → gI (fillO (fillO (layH h p) p 5 (fun k => gI h p (5 + k) + owedF (pageS h p) k) (nW (pageS h p))) p 10 (fun j => (pageS h p) 3 j + stepF (pageS h p) j) i) p (19 + k) = (pageS h p) 0 k := fun k hk => by rw [fo_O (by omega), fo_O (by omega), lay_N hp56 hp57, pa0 hk]
      have eD : gI (fillO (fillO (layH h p) p 5 (fun k => gI h p (5 + k) + owedF (pageS h p) k) (nW (pageS h p))) p 10 (fun j => (pageS h p) 3 j + stepF (pageS h p) j) i) 56 i = drawsF (pageS h p) i := by rw [fo_N (Ne.symm hp56), fo_N (Ne.symm hp56), lay_56 hi]
      have hlow : ¬ drawsF (pageS h p) i = 0 → lowB (drawsF (pageS h p) i) < nW (pageS h p) := fun z => by obtain ⟨e, he, ee⟩ := draws_nat hw5 i; rw [ee] at z ⊢; exact (low_in _ (by omega) e he z).1
      have hls : lstN (drawsF (pageS h p) i) (nW (pageS h p)) (nW (pageS h p)) = if drawsF (pageS h p) i = 0 then -9 else nI (lowB (drawsF (pageS h p) i)) := by obtain ⟨e, he, ee⟩ := draws_nat hw5 i; rw [ee]; exact lst_low _ (by omega) e he
      have hst : stepF (pageS h p) i = cmpI (if drawsF (pageS h p) i = 0 then (pageS h p) 3 i else (pageS h p) 0 (lowB (drawsF (pageS h p) i))) ((pageS h p) 3 i) := by unfold stepF; by_cases z : drawsF (pageS h p) i = 0; rw [if_pos z, if_pos z, cmp_self]; rw [if_neg z, if_neg z]
      refine wh_iload_n (pc := 38) d_Md_goNight_38 rfl rfl ?_
      refine wh_aload_n (pc := 39) d_Md_goNight_39 rfl rfl ?_
      refine gf_Md_73 (pc := 40) rfl d_Md_goNight_40 ?_
      refine wh_icmp_ge (pc := 43) (tgt := 129) d_Md_goNight_43 (by decide) (fun c_43 => absurd c_43 (by rw [hn6]; exact nI_ge hi (by omega))) (fun c_43 => ?_)
      refine wh_aload_n (pc := 46) d_Md_goNight_46 rfl rfl ?_
      refine wh_aload_n (pc := 47) d_Md_goNight_47 rfl rfl ?_
      refine gf_Md_50 (pc := 48) rfl d_Md_goNight_48 ?_
      refine wh_iload_n (pc := 51) d_Md_goNight_51 rfl rfl ?_
      refine wh_iald (pc := 52) d_Md_goNight_52 rfl (by first | exact in_nI (by omega) (by omega) | (simp only [a0, a5, a10, a19]; exact in_nI (by omega) (by omega)) | exact vp_in_iff.mpr (by decide)) ?_
      refine cv_Md_174_d (pc := 53) rfl d_Md_goNight_53 ⟨⟨by decide, by decide⟩, rfl, rfl⟩ (m_least (n := nW (pageS h p)) (hn4 _) hw5) (Nat.le_of_ble_eq_true rfl) ?_
      rw [cl_nI (show i < 2 ^ 31 by omega), eD, hls]
      refine wh_istore (pc := 56) (ls2 := [_, _, _, _, _, _]) d_Md_goNight_56 (by decide) rfl rfl ?_
      refine wh_cut (pcj := 81) (lsj := [some (.ref 42), some (.ref p), some (.int (allF (pageS h p))), some (.int (nI i)), some (.int (if drawsF (pageS h p) i = 0 then -9 else nI (lowB (drawsF (pageS h p) i)))), none]) (stj := [.int (if drawsF (pageS h p) i = 0 then (pageS h p) 3 i else (pageS h p) 0 (lowB (drawsF (pageS h p) i)))]) (hj := fillO (fillO (layH h p) p 5 (fun k => gI h p (5 + k) + owedF (pageS h p) k) (nW (pageS h p))) p 10 (fun j => (pageS h p) 3 j + stepF (pageS h p) j) i) ?_ (fun j_81 => ?_)
      · refine wh_istore (pc := 81) (ls2 := [_, _, _, _, _, _]) d_Md_goNight_81 (by decide) rfl rfl ?_
        refine wh_aload_n (pc := 83) d_Md_goNight_83 rfl rfl ?_
        refine wh_bipush (pc := 84) (v := 10) d_Md_goNight_84 (by decide) ?_
        refine wh_iload_n (pc := 86) d_Md_goNight_86 rfl rfl ?_
        refine wh_iadd (pc := 87) d_Md_goNight_87 ?_
        refine wh_dup2 (pc := 88) d_Md_goNight_88 rfl rfl ?_
        refine wh_iald (pc := 89) d_Md_goNight_89 hp (by first | exact in_nI (by omega) (by omega) | (simp only [a0, a5, a10, a19]; exact in_nI (by omega) (by omega)) | exact vp_in_iff.mpr (by decide)) ?_
        refine wh_cut (pcj := 121) (lsj := [some (.ref 42), some (.ref p), some (.int (allF (pageS h p))), some (.int (nI i)), some (.int (if drawsF (pageS h p) i = 0 then -9 else nI (lowB (drawsF (pageS h p) i)))), some (.int (if drawsF (pageS h p) i = 0 then (pageS h p) 3 i else (pageS h p) 0 (lowB (drawsF (pageS h p) i))))]) (stj := [.int (stepF (pageS h p) i), .int ((pageS h p) 3 i), .int (10 + nI i), .ref p]) (hj := fillO (fillO (layH h p) p 5 (fun k => gI h p (5 + k) + owedF (pageS h p) k) (nW (pageS h p))) p 10 (fun j => (pageS h p) 3 j + stepF (pageS h p) j) i) ?_ (fun j_121 => ?_)
        · refine wh_iadd (pc := 121) d_Md_goNight_121 ?_
          refine wh_iast (pc := 122) d_Md_goNight_122 hp (by first | exact in_nI (by omega) (by omega) | (simp only [a0, a5, a10, a19]; exact in_nI (by omega) (by omega)) | exact vp_in_iff.mpr (by decide)) ?_
          refine wh_iinc (pc := 123) (ls2 := [_, _, _, _, _, _]) d_Md_goNight_123 rfl (nI_inc _) (by decide) rfl rfl ?_
          refine wh_goto (pc := 126) (tgt := 38) d_Md_goNight_126 (by decide) ?_
          refine wh_drop (i := 4) (ls2 := [_, _, _, _, _, _]) rfl ?_
          refine wh_drop (i := 5) (ls2 := [_, _, _, _, _, _]) rfl ?_
          refine wh_eq (ih trivial) rfl rfl ?_
          rw [a10, cl_nI (by omega)]
          exact fo_s _ _ _ _ _ rfl
        · refine wh_eq ?_ rfl (show _ = [.int ((pageS h p) 3 i), .int (10 + nI i), .ref p] by rw [a10, cl_nI (by omega), eS]) rfl
          refine wh_iload (pc := 90) d_Md_goNight_90 rfl ?_
          refine wh_aload_n (pc := 92) d_Md_goNight_92 rfl rfl ?_
          refine wh_bipush (pc := 93) (v := 10) d_Md_goNight_93 (by decide) ?_
          refine wh_iload_n (pc := 95) d_Md_goNight_95 rfl rfl ?_
          refine wh_iadd (pc := 96) d_Md_goNight_96 ?_
          refine wh_iald (pc := 97) d_Md_goNight_97 hp (by first | exact in_nI (by omega) (by omega) | (simp only [a0, a5, a10, a19]; exact in_nI (by omega) (by omega)) | exact vp_in_iff.mpr (by decide)) ?_
          refine wh_icmp_le (pc := 98) (tgt := 105) d_Md_goNight_98 (by decide) (fun c_98 => ?_) (fun c_98 => ?_)
          · refine wh_iload (pc := 105) d_Md_goNight_105 rfl ?_
            refine wh_aload_n (pc := 107) d_Md_goNight_107 rfl rfl ?_
            refine wh_bipush (pc := 108) (v := 10) d_Md_goNight_108 (by decide) ?_
            refine wh_iload_n (pc := 110) d_Md_goNight_110 rfl rfl ?_
            refine wh_iadd (pc := 111) d_Md_goNight_111 ?_
            refine wh_iald (pc := 112) d_Md_goNight_112 hp (by first | exact in_nI (by omega) (by omega) | (simp only [a0, a5, a10, a19]; exact in_nI (by omega) (by omega)) | exact vp_in_iff.mpr (by decide)) ?_
            refine wh_icmp_ge (pc := 113) (tgt := 120) d_Md_goNight_113 (by decide) (fun c_113 => ?_) (fun c_113 => ?_)
            · refine wh_iconst (pc := 120) (v := 0) d_Md_goNight_120 (by decide) ?_
              refine wh_eq j_121 rfl ?_ rfl
              rw [hst, ← cmp_step]
              simp only [a10, cl_nI (show 10 + i < 2 ^ 31 by omega), eS] at *
              first | (rw [if_pos (by rw [i_lt]; rw [i_le] at c_98; omega)]; done) | (rw [if_neg (by rw [i_lt]; rw [i_le] at c_98; omega), if_pos (by rw [i_lt]; rw [i_le] at c_113; omega)]; done) | (rw [if_neg (by rw [i_lt]; rw [i_le] at c_98; omega), if_neg (by rw [i_lt]; rw [i_le] at c_113; omega)]; done)
            · refine wh_iconst (pc := 116) (v := (-1)) d_Md_goNight_116 (by decide) ?_
              refine wh_goto (pc := 117) (tgt := 121) d_Md_goNight_117 (by decide) ?_
              refine wh_eq j_121 rfl ?_ rfl
              rw [hst, ← cmp_step]
              simp only [a10, cl_nI (show 10 + i < 2 ^ 31 by omega), eS] at *
              first | (rw [if_pos (by rw [i_lt]; rw [i_le] at c_98; omega)]; done) | (rw [if_neg (by rw [i_lt]; rw [i_le] at c_98; omega), if_pos (by rw [i_lt]; rw [i_le] at c_113; omega)]; done) | (rw [if_neg (by rw [i_lt]; rw [i_le] at c_98; omega), if_neg (by rw [i_lt]; rw [i_le] at c_113; omega)]; done)
          · refine wh_iconst (pc := 101) (v := 1) d_Md_goNight_101 (by decide) ?_
            refine wh_goto (pc := 102) (tgt := 121) d_Md_goNight_102 (by decide) ?_
            refine wh_eq j_121 rfl ?_ rfl
            rw [hst, ← cmp_step]
            simp only [a10, cl_nI (show 10 + i < 2 ^ 31 by omega), eS] at *
            first | (rw [if_pos (by rw [i_lt]; rw [i_le] at c_98; omega)]; done) | (rw [if_neg (by rw [i_lt]; rw [i_le] at c_98; omega), if_pos (by rw [i_lt]; rw [i_le] at c_113; omega)]; done) | (rw [if_neg (by rw [i_lt]; rw [i_le] at c_98; omega), if_neg (by rw [i_lt]; rw [i_le] at c_113; omega)]; done)
      · refine wh_iload (pc := 58) d_Md_goNight_58 rfl ?_
        refine wh_bipush (pc := 60) (v := (-9)) d_Md_goNight_60 (by decide) ?_
        refine wh_icmp_ne (pc := 62) (tgt := 74) d_Md_goNight_62 (by decide) (fun c_62 => ?_) (fun c_62 => ?_)
        · refine wh_aload_n (pc := 74) d_Md_goNight_74 rfl rfl ?_
          refine wh_bipush (pc := 75) (v := 19) d_Md_goNight_75 (by decide) ?_
          refine wh_iload (pc := 77) d_Md_goNight_77 rfl ?_
          refine wh_iadd (pc := 79) d_Md_goNight_79 ?_
          refine wh_iald (pc := 80) d_Md_goNight_80 hp (by by_cases z : drawsF (pageS h p) i = 0; exact absurd (if_pos z) c_62; rw [if_neg z, a19]; exact in_nI (by have := hlow z; omega) (by omega)) ?_
          refine wh_eq j_81 rfl ?_ rfl
          by_cases z : drawsF (pageS h p) i = 0
          · rw [if_pos z] at c_62 ⊢; first | (rw [a10, cl_nI (by omega), eS]) | exact absurd rfl c_62
          · rw [if_neg z] at c_62 ⊢; first | exact absurd c_62 (nI9 (by have := hlow z; omega)) | (rw [a19, cl_nI (by have := hlow z; omega), eP _ (hlow z), if_neg z])
        · refine wh_aload_n (pc := 65) d_Md_goNight_65 rfl rfl ?_
          refine wh_bipush (pc := 66) (v := 10) d_Md_goNight_66 (by decide) ?_
          refine wh_iload_n (pc := 68) d_Md_goNight_68 rfl rfl ?_
          refine wh_iadd (pc := 69) d_Md_goNight_69 ?_
          refine wh_iald (pc := 70) d_Md_goNight_70 hp (by first | exact in_nI (by omega) (by omega) | (simp only [a0, a5, a10, a19]; exact in_nI (by omega) (by omega)) | exact vp_in_iff.mpr (by decide)) ?_
          refine wh_goto (pc := 71) (tgt := 81) d_Md_goNight_71 (by decide) ?_
          refine wh_eq j_81 rfl ?_ rfl
          by_cases z : drawsF (pageS h p) i = 0
          · rw [if_pos z] at c_62 ⊢; first | (rw [a10, cl_nI (by omega), eS]) | exact absurd rfl c_62
          · rw [if_neg z] at c_62 ⊢; first | exact absurd c_62 (nI9 (by have := hlow z; omega)) | (rw [a19, cl_nI (by have := hlow z; omega), eP _ (hlow z), if_neg z])
  · intro i hi _ ih
    refine wh_iload_n (pc := 8) d_Md_goNight_8 rfl rfl ?_
    refine wh_aload_n (pc := 9) d_Md_goNight_9 rfl rfl ?_
    refine gf_Md_66 (pc := 10) rfl d_Md_goNight_10 ?_
    refine wh_icmp_ge (pc := 13) (tgt := 36) d_Md_goNight_13 (by decide) (fun c_13 => absurd c_13 (by rw [fo_N hp42, lay_N (by decide) (by decide), pf_w hF]; exact nI_ge hi (by omega))) (fun c_13 => ?_)
    refine wh_aload_n (pc := 16) d_Md_goNight_16 rfl rfl ?_
    refine wh_iconst (pc := 17) (v := 5) d_Md_goNight_17 (by decide) ?_
    refine wh_iload_n (pc := 18) d_Md_goNight_18 rfl rfl ?_
    refine wh_iadd (pc := 19) d_Md_goNight_19 ?_
    refine wh_dup2 (pc := 20) d_Md_goNight_20 rfl rfl ?_
    refine wh_iald (pc := 21) d_Md_goNight_21 hp (by first | exact in_nI (by omega) (by omega) | (simp only [a0, a5, a10, a19]; exact in_nI (by omega) (by omega)) | exact vp_in_iff.mpr (by decide)) ?_
    refine wh_aload_n (pc := 22) d_Md_goNight_22 rfl rfl ?_
    refine gf_Md_53 (pc := 23) rfl d_Md_goNight_23 ?_
    refine wh_iload_n (pc := 26) d_Md_goNight_26 rfl rfl ?_
    refine wh_iald (pc := 27) d_Md_goNight_27 rfl (by first | exact in_nI (by omega) (by omega) | (simp only [a0, a5, a10, a19]; exact in_nI (by omega) (by omega)) | exact vp_in_iff.mpr (by decide)) ?_
    refine wh_iadd (pc := 28) d_Md_goNight_28 ?_
    refine wh_iast (pc := 29) d_Md_goNight_29 hp (by first | exact in_nI (by omega) (by omega) | (simp only [a0, a5, a10, a19]; exact in_nI (by omega) (by omega)) | exact vp_in_iff.mpr (by decide)) ?_
    refine wh_iinc (pc := 30) (ls2 := [_, _, _, _, _, _]) d_Md_goNight_30 rfl (nI_inc _) (by decide) rfl rfl ?_
    refine wh_goto (pc := 33) (tgt := 8) d_Md_goNight_33 (by decide) ?_
    refine wh_eq (ih trivial) rfl rfl ?_
    simp only [a5, cl_nI (show i < 2 ^ 31 by omega), cl_nI (show 5 + i < 2 ^ 31 by omega)]
    refine fo_s _ _ _ _ _ ?_
    rw [fo_O (by omega), lay_N hp56 hp57, fo_N (Ne.symm hp57), lay_57 hi]
theorem m_begin {l : Launch} {D : va_G} {base : Nat} {h : Hp} : SD l D base M_Md_begin [.ref 42] h none (fillA h 49 (fun k => gI h 48 k) 24) := by
  refine SP.of [some (.ref 42), none] (by decide) rfl (Nat.le_of_ble_eq_true rfl) ?_
  refine wh_iconst (pc := 0) (v := 0) d_Md_begin_0 (by decide) ?_
  refine wh_istore_n (pc := 1) (ls2 := [_, _]) d_Md_begin_1 rfl (by decide) rfl rfl ?_
  refine wh_eq (wh_loop (24) (fun i => [some (.ref 42), some (.int (nI i))]) (fun i => fillA h 49 (fun k => gI h 48 k) i) (fun i => True) ?_ ?_ 0 (Nat.zero_le _) trivial) ?_ rfl ?_
  · intro _
    refine wh_iload_n (pc := 2) d_Md_begin_2 rfl rfl ?_
    refine wh_bipush (pc := 3) (v := 24) d_Md_begin_3 (by decide) ?_
    refine wh_icmp_ge (pc := 5) (tgt := 26) d_Md_begin_5 (by decide) (fun c_5 => ?_) (fun c_5 => absurd (by decide) c_5)
    refine wh_vret (pc := 26) d_Md_begin_26 rfl ?_
    exact ⟨rfl, rfl⟩
  · intro i hi _ ih
    refine wh_iload_n (pc := 2) d_Md_begin_2 rfl rfl ?_
    refine wh_bipush (pc := 3) (v := 24) d_Md_begin_3 (by decide) ?_
    refine wh_icmp_ge (pc := 5) (tgt := 26) d_Md_begin_5 (by decide) (fun c_5 => absurd c_5 (nI_ge hi (by decide))) (fun c_5 => ?_)
    refine wh_aload_n (pc := 8) d_Md_begin_8 rfl rfl ?_
    refine gf_Md_28 (pc := 9) rfl d_Md_begin_9 ?_
    refine wh_iload_n (pc := 12) d_Md_begin_12 rfl rfl ?_
    refine wh_aload_n (pc := 13) d_Md_begin_13 rfl rfl ?_
    refine gf_Md_25 (pc := 14) rfl d_Md_begin_14 ?_
    refine wh_iload_n (pc := 17) d_Md_begin_17 rfl rfl ?_
    refine wh_iald (pc := 18) d_Md_begin_18 rfl (by first | exact in_nI (by omega) (by omega) | (simp only [a0, a5, a10, a19]; exact in_nI (by omega) (by omega)) | exact vp_in_iff.mpr (by decide)) ?_
    refine wh_iast (pc := 19) d_Md_begin_19 rfl (by first | exact in_nI (by omega) (by omega) | (simp only [a0, a5, a10, a19]; exact in_nI (by omega) (by omega)) | exact vp_in_iff.mpr (by decide)) ?_
    refine wh_iinc (pc := 20) (ls2 := [_, _]) d_Md_begin_20 rfl (nI_inc _) (by decide) rfl rfl ?_
    refine wh_goto (pc := 23) (tgt := 2) d_Md_begin_23 (by decide) ?_
    rw [cl_nI (show i < 2 ^ 31 by omega)]
    exact wh_eq (ih trivial) rfl rfl (fill_s _ _ _ _ (by rw [gI_fillN (by decide)]))
  · rfl
  · exact (fill_0 _ _ _).symm
theorem m_isFree {l : Launch} {D : va_G} {base : Nat} {h : Hp} {S : St} (hS : pageS h 48 = S) (hF : WFS S) {x : Int32} : SD l D base M_Md_isFree [.ref 42, .int x] h (some (.int (if anyN (fun q => decide (S 0 q = x)) (nW S) then 0 else 1))) h := by
  refine SP.of [some (.ref 42), some (.int x), none, none] (by decide) rfl (Nat.le_of_ble_eq_true rfl) ?_
  subst hS
  have hw5 := hF.1.1
  refine wh_iconst (pc := 0) (v := 1) d_Md_isFree_0 (by decide) ?_
  refine wh_istore_n (pc := 1) (ls2 := [_, _, _, _]) d_Md_isFree_1 rfl (by decide) rfl rfl ?_
  refine wh_iconst (pc := 2) (v := 0) d_Md_isFree_2 (by decide) ?_
  refine wh_istore_n (pc := 3) (ls2 := [_, _, _, _]) d_Md_isFree_3 rfl (by decide) rfl rfl ?_
  refine wh_eq (wh_loop (nW (pageS h 48)) (fun i => [some (.ref 42), some (.int (x)), some (.int (if anyN (fun q => decide (pageS h 48 0 q = x)) i then 0 else 1)), some (.int (nI i))]) (fun i => h) (fun i => True) ?_ ?_ 0 (Nat.zero_le _) trivial) ?_ rfl ?_
  · intro _
    refine wh_iload_n (pc := 4) d_Md_isFree_4 rfl rfl ?_
    refine wh_aload_n (pc := 5) d_Md_isFree_5 rfl rfl ?_
    refine gf_Md_66 (pc := 6) rfl d_Md_isFree_6 ?_
    refine wh_icmp_ge (pc := 9) (tgt := 41) d_Md_isFree_9 (by decide) (fun c_9 => ?_) (fun c_9 => absurd (by rw [pf_w hF]; exact nI_le (Nat.le_refl _) (by omega)) c_9)
    refine wh_iload_n (pc := 41) d_Md_isFree_41 rfl rfl ?_
    refine wh_zret (pc := 42) d_Md_isFree_42 rfl (by cases anyN (fun q => decide (pageS h 48 0 q = x)) (nW (pageS h 48)) <;> rfl) ?_
    exact ⟨rfl, rfl⟩
  · intro i hi _ ih
    refine wh_iload_n (pc := 4) d_Md_isFree_4 rfl rfl ?_
    refine wh_aload_n (pc := 5) d_Md_isFree_5 rfl rfl ?_
    refine gf_Md_66 (pc := 6) rfl d_Md_isFree_6 ?_
    refine wh_icmp_ge (pc := 9) (tgt := 41) d_Md_isFree_9 (by decide) (fun c_9 => absurd c_9 (by rw [pf_w hF]; exact nI_ge hi (by omega))) (fun c_9 => ?_)
    refine wh_iload_n (pc := 12) d_Md_isFree_12 rfl rfl ?_
    refine wh_if_eq (pc := 13) (tgt := 33) d_Md_isFree_13 (by decide) (fun c_13 => ?_) (fun c_13 => ?_)
    · refine wh_iconst (pc := 33) (v := 0) d_Md_isFree_33 (by decide) ?_
      refine wh_istore_n (pc := 34) (ls2 := [_, _, _, _]) d_Md_isFree_34 rfl (by decide) rfl rfl ?_
      refine wh_iinc (pc := 35) (ls2 := [_, _, _, _]) d_Md_isFree_35 rfl (nI_inc _) (by decide) rfl rfl ?_
      refine wh_goto (pc := 38) (tgt := 4) d_Md_isFree_38 (by decide) ?_
      refine wh_eq (ih trivial) ?_ rfl rfl
      have es : anyN (fun q => decide (pageS h 48 0 q = x)) (i + 1) = (anyN (fun q => decide (pageS h 48 0 q = x)) i || decide (pageS h 48 0 i = x)) := rfl
      rw [es]
      try simp only [a19, cl_nI (show 19 + i < 2 ^ 31 by omega), pa0 hi] at *
      generalize anyN (fun q => decide (pageS h 48 0 q = x)) i = acc at *
      cases acc
      · first
          | (have h1 : decide (pageS h 48 0 i = x) = true := by simp only [decide_eq_true_eq]; assumption
             rw [h1]; rfl)
          | (have h1 : decide (pageS h 48 0 i = x) = false := by simp only [decide_eq_false_iff_not]; assumption
             rw [h1]; rfl)
          | (exfalso; simp_all)
      · first | rfl | (exfalso; simp_all)
    · refine wh_aload_n (pc := 16) d_Md_isFree_16 rfl rfl ?_
      refine gf_Md_25 (pc := 17) rfl d_Md_isFree_17 ?_
      refine wh_bipush (pc := 20) (v := 19) d_Md_isFree_20 (by decide) ?_
      refine wh_iload_n (pc := 22) d_Md_isFree_22 rfl rfl ?_
      refine wh_iadd (pc := 23) d_Md_isFree_23 ?_
      refine wh_iald (pc := 24) d_Md_isFree_24 rfl (by first | exact in_nI (by omega) (by omega) | (simp only [a0, a5, a10, a19]; exact in_nI (by omega) (by omega)) | exact vp_in_iff.mpr (by decide)) ?_
      refine wh_iload_n (pc := 25) d_Md_isFree_25 rfl rfl ?_
      refine wh_icmp_eq (pc := 26) (tgt := 33) d_Md_isFree_26 (by decide) (fun c_26 => ?_) (fun c_26 => ?_)
      · refine wh_iconst (pc := 33) (v := 0) d_Md_isFree_33 (by decide) ?_
        refine wh_istore_n (pc := 34) (ls2 := [_, _, _, _]) d_Md_isFree_34 rfl (by decide) rfl rfl ?_
        refine wh_iinc (pc := 35) (ls2 := [_, _, _, _]) d_Md_isFree_35 rfl (nI_inc _) (by decide) rfl rfl ?_
        refine wh_goto (pc := 38) (tgt := 4) d_Md_isFree_38 (by decide) ?_
        refine wh_eq (ih trivial) ?_ rfl rfl
        have es : anyN (fun q => decide (pageS h 48 0 q = x)) (i + 1) = (anyN (fun q => decide (pageS h 48 0 q = x)) i || decide (pageS h 48 0 i = x)) := rfl
        rw [es]
        try simp only [a19, cl_nI (show 19 + i < 2 ^ 31 by omega), pa0 hi] at *
        generalize anyN (fun q => decide (pageS h 48 0 q = x)) i = acc at *
        cases acc
        · first
            | (have h1 : decide (pageS h 48 0 i = x) = true := by simp only [decide_eq_true_eq]; assumption
               rw [h1]; rfl)
            | (have h1 : decide (pageS h 48 0 i = x) = false := by simp only [decide_eq_false_iff_not]; assumption
               rw [h1]; rfl)
            | (exfalso; simp_all)
        · first | rfl | (exfalso; simp_all)
      · refine wh_iconst (pc := 29) (v := 1) d_Md_isFree_29 (by decide) ?_
        refine wh_goto (pc := 30) (tgt := 34) d_Md_isFree_30 (by decide) ?_
        refine wh_istore_n (pc := 34) (ls2 := [_, _, _, _]) d_Md_isFree_34 rfl (by decide) rfl rfl ?_
        refine wh_iinc (pc := 35) (ls2 := [_, _, _, _]) d_Md_isFree_35 rfl (nI_inc _) (by decide) rfl rfl ?_
        refine wh_goto (pc := 38) (tgt := 4) d_Md_isFree_38 (by decide) ?_
        refine wh_eq (ih trivial) ?_ rfl rfl
        have es : anyN (fun q => decide (pageS h 48 0 q = x)) (i + 1) = (anyN (fun q => decide (pageS h 48 0 q = x)) i || decide (pageS h 48 0 i = x)) := rfl
        rw [es]
        try simp only [a19, cl_nI (show 19 + i < 2 ^ 31 by omega), pa0 hi] at *
        generalize anyN (fun q => decide (pageS h 48 0 q = x)) i = acc at *
        cases acc
        · first
            | (have h1 : decide (pageS h 48 0 i = x) = true := by simp only [decide_eq_true_eq]; assumption
               rw [h1]; rfl)
            | (have h1 : decide (pageS h 48 0 i = x) = false := by simp only [decide_eq_false_iff_not]; assumption
               rw [h1]; rfl)
            | (exfalso; simp_all)
        · first | rfl | (exfalso; simp_all)
  · rfl
  · rfl

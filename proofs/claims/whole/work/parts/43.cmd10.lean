theorem nI_mulc (a : Nat) : (3 : Int32) * nI (a % 3) = nI (a % 3 * 3) := by rw [show (3 : Int32) = nI 3 from rfl, pk_mul, Nat.mul_comm]
theorem r_findCheap {l : Launch} {D : va_G} {base : Nat} {h h0 : Hp} (hF8 : WFS (pageS h 48)) (hf0 : FM h h0) : SV l D base M_Md_findCheap [.ref 42] h0 (fun g => FM h g ∧ gI g 42 27 = cheapF (pageS h 48) 0 ∧ gI g 42 28 = cheapF (pageS h 48) 1) := by
  refine SP.of [some (.ref 42), none, none, none] (by decide) rfl (Nat.le_of_ble_eq_true rfl) ?_
  have hw5 := hF8.1.1
  have hm6 := hF8.2.1.1
  have hp3 := pow_le5 hw5
  have hfs : FM h (sI (sI h0 42 27 (-9)) 42 28 (-9)) := (hf0.tr (fm_sI (by unfold scM; omega))).tr (fm_sI (by unfold scM; omega))
  have h4s : gI (sI (sI h0 42 27 (-9)) 42 28 (-9)) 42 4 = nI (nW (pageS h 48)) := by rw [hfs.2 42 4 (by unfold scM; omega)]; exact pf_w hF8
  by_cases hz : nW (pageS h 48) = 0
  · refine wh_aload_n (pc := 0) d_Md_findCheap_0 rfl rfl ?_
    refine wh_bipush (pc := 1) (v := (-9)) d_Md_findCheap_1 (by decide) ?_
    refine pf_Md_189 (pc := 3) rfl d_Md_findCheap_3 ?_
    refine wh_aload_n (pc := 6) d_Md_findCheap_6 rfl rfl ?_
    refine wh_bipush (pc := 7) (v := (-9)) d_Md_findCheap_7 (by decide) ?_
    refine pf_Md_192 (pc := 9) rfl d_Md_findCheap_9 ?_
    refine wh_iconst (pc := 12) (v := 0) d_Md_findCheap_12 (by decide) ?_
    refine wh_istore_n (pc := 13) (ls2 := [_, _, _, _]) d_Md_findCheap_13 rfl (by decide) rfl rfl ?_
    refine wh_iload_n (pc := 14) d_Md_findCheap_14 rfl rfl ?_
    refine wh_iconst (pc := 15) (v := 3) d_Md_findCheap_15 (by decide) ?_
    refine wh_aload_n (pc := 16) d_Md_findCheap_16 rfl rfl ?_
    refine gf_Md_66 (pc := 17) rfl d_Md_findCheap_17 ?_
    refine cs_Md_195_d (pc := 20) rfl d_Md_findCheap_20 ⟨⟨by decide, by decide⟩, rfl, rfl⟩ ((show SD l D base M_Md_power [.int 3, .int (gI (sI (sI h0 42 27 (-9)) 42 28 (-9)) 42 4)] (sI (sI h0 42 27 (-9)) 42 28 (-9)) (some (.int 1)) (sI (sI h0 42 27 (-9)) 42 28 (-9)) by rw [h4s, hz]; exact m_power (by omega))) (Nat.le_of_ble_eq_true rfl) ?_
    refine wh_icmp_ge (pc := 23) (tgt := 156) d_Md_findCheap_23 (by decide) (fun c_23 => absurd c_23 (by decide)) (fun c_23 => ?_)
    refine wh_aload_n (pc := 26) d_Md_findCheap_26 rfl rfl ?_
    refine gf_Md_66 (pc := 27) rfl d_Md_findCheap_27 ?_
    refine wh_if_le (pc := 30) (tgt := 156) d_Md_findCheap_30 (by decide) (fun c_30 => ?_) (fun c_30 => absurd (by rw [h4s, hz]; decide) c_30)
    refine wh_vret (pc := 156) d_Md_findCheap_156 rfl ?_
    refine ⟨rfl, hfs, ?_, ?_⟩
    · rw [gI_sM (by decide), gI_sS]; unfold cheapF; rw [if_pos hz]
    · rw [gI_sS]; unfold cheapF; rw [if_pos hz]
  · refine wh_aload_n (pc := 0) d_Md_findCheap_0 rfl rfl ?_
    refine wh_bipush (pc := 1) (v := (-9)) d_Md_findCheap_1 (by decide) ?_
    refine pf_Md_189 (pc := 3) rfl d_Md_findCheap_3 ?_
    refine wh_aload_n (pc := 6) d_Md_findCheap_6 rfl rfl ?_
    refine wh_bipush (pc := 7) (v := (-9)) d_Md_findCheap_7 (by decide) ?_
    refine pf_Md_192 (pc := 9) rfl d_Md_findCheap_9 ?_
    refine wh_iconst (pc := 12) (v := 0) d_Md_findCheap_12 (by decide) ?_
    refine wh_istore_n (pc := 13) (ls2 := [_, _, _, _]) d_Md_findCheap_13 rfl (by decide) rfl rfl ?_
    refine wh_loopR (3 ^ nW (pageS h 48)) (fun i => [some (.ref 42), some (.int (nI i)), none, none]) (fun i g => FM h g ∧ gI g 42 27 = (chN (pageS h 48) i).1 ∧ gI g 42 28 = (chN (pageS h 48) i).2) ?_ ?_ 0 _ (Nat.zero_le _) ⟨hfs, by rw [gI_sM (by decide), gI_sS]; rfl, by rw [gI_sS]; rfl⟩
    · intro g hI
      have h4 : gI g 42 4 = nI (nW (pageS h 48)) := by rw [hI.1.2 42 4 (by unfold scM; omega)]; exact pf_w hF8
      refine wh_iload_n (pc := 14) d_Md_findCheap_14 rfl rfl ?_
      refine wh_iconst (pc := 15) (v := 3) d_Md_findCheap_15 (by decide) ?_
      refine wh_aload_n (pc := 16) d_Md_findCheap_16 rfl rfl ?_
      refine gf_Md_66 (pc := 17) rfl d_Md_findCheap_17 ?_
      refine cs_Md_195_d (pc := 20) rfl d_Md_findCheap_20 ⟨⟨by decide, by decide⟩, rfl, rfl⟩ ((show SD l D base M_Md_power [.int 3, .int (gI g 42 4)] g (some (.int (nI (3 ^ nW (pageS h 48))))) g by rw [h4, ← pow_3 _ (by omega)]; exact m_power (by omega))) (Nat.le_of_ble_eq_true rfl) ?_
      refine wh_icmp_ge (pc := 23) (tgt := 156) d_Md_findCheap_23 (by decide) (fun c_23 => ?_) (fun c_23 => absurd (nI_le (Nat.le_refl _) (by omega)) c_23)
      refine wh_vret (pc := 156) d_Md_findCheap_156 rfl ?_
      refine ⟨rfl, hI.1, ?_, ?_⟩
      · rw [hI.2.1]; unfold cheapF; rw [if_neg hz, if_pos rfl]
      · rw [hI.2.2]; unfold cheapF; rw [if_neg hz, if_neg (by decide)]
    · intro i g hi hI ih
      obtain ⟨hfm, h27, h28⟩ := hI
      have hgS : pageS g 48 = (pageS h 48) := fm_page hfm
      have h4 : gI g 42 4 = nI (nW (pageS h 48)) := by rw [hfm.2 42 4 (by unfold scM; omega)]; exact pf_w hF8
      have h4q : ∀ q, gI (fillA (bgH g) 49 (fun k => nI (i / 3 ^ (nW (pageS h 48) - 1 - k) % 3 * 3)) q) 42 4 = nI (nW (pageS h 48)) := fun q => by rw [gI_fillN (by decide)]; exact (gI_fillN (by decide)).trans h4
      have hTF : WFS (thS (pageS h 48) i) := wf_th hF8 i
      have hT : pageS (fillA (bgH g) 49 (fun k => nI (i / 3 ^ (nW (pageS h 48) - 1 - k) % 3 * 3)) (nW (pageS h 48))) 49 = (thS (pageS h 48) i) := page_th hgS hw5 hm6 (fun c j z => by rw [gI_fillN z]; exact gI_fillN z) (fun j z1 z2 => by rw [gI_fillO z1]; exact gI_fillY z2) (fun j z => gI_fillY z)
      have hTL : pageS (layH (fillA (bgH g) 49 (fun k => nI (i / 3 ^ (nW (pageS h 48) - 1 - k) % 3 * 3)) (nW (pageS h 48))) 49) 49 = (thS (pageS h 48) i) := by rw [page_lay (Or.inr rfl), hT]
      have hfmL : FM h (layH (fillA (bgH g) 49 (fun k => nI (i / 3 ^ (nW (pageS h 48) - 1 - k) % 3 * 3)) (nW (pageS h 48))) 49) := (hfm.tr fm_bg).tr ((show FM (bgH g) (fillA (bgH g) 49 (fun k => nI (i / 3 ^ (nW (pageS h 48) - 1 - k) % 3 * 3)) (nW (pageS h 48))) from ⟨rfl, fun c j q => gI_fillN (fun z => q (by unfold scM; omega))⟩).tr fm_lay)
      have hLx : ∀ j, gI (layH (fillA (bgH g) 49 (fun k => nI (i / 3 ^ (nW (pageS h 48) - 1 - k) % 3 * 3)) (nW (pageS h 48))) 49) 42 j = gI g 42 j := fun j => by rw [lay_N (by decide) (by decide), gI_fillN (by decide)]; exact gI_fillN (by decide)
      have hL27 : gI (layH (fillA (bgH g) 49 (fun k => nI (i / 3 ^ (nW (pageS h 48) - 1 - k) % 3 * 3)) (nW (pageS h 48))) 49) 42 27 = (chN (pageS h 48) i).1 := by rw [hLx]; exact h27
      have hL28 : gI (layH (fillA (bgH g) 49 (fun k => nI (i / 3 ^ (nW (pageS h 48) - 1 - k) % 3 * 3)) (nW (pageS h 48))) 49) 42 28 = (chN (pageS h 48) i).2 := by rw [hLx]; exact h28
      have hL4 : gI (layH (fillA (bgH g) 49 (fun k => nI (i / 3 ^ (nW (pageS h 48) - 1 - k) % 3 * 3)) (nW (pageS h 48))) 49) 42 4 = (pageS h 48) 5 0 := by rw [hLx, h4]; exact (pf_w hF8).symm
      have es : chN (pageS h 48) (i + 1) = if readersF (thS (pageS h 48) i) = (1 <<< ((pageS h 48) 5 0 &&& 31)) - 1 ∧ ((chN (pageS h 48) i).1 = -9 ∨ allF (thS (pageS h 48) i) < (chN (pageS h 48) i).1) then (allF (thS (pageS h 48) i), rowN (thS (pageS h 48) i) (nW (pageS h 48))) else chN (pageS h 48) i := rfl
      refine wh_iload_n (pc := 14) d_Md_findCheap_14 rfl rfl ?_
      refine wh_iconst (pc := 15) (v := 3) d_Md_findCheap_15 (by decide) ?_
      refine wh_aload_n (pc := 16) d_Md_findCheap_16 rfl rfl ?_
      refine gf_Md_66 (pc := 17) rfl d_Md_findCheap_17 ?_
      refine cs_Md_195_d (pc := 20) rfl d_Md_findCheap_20 ⟨⟨by decide, by decide⟩, rfl, rfl⟩ ((show SD l D base M_Md_power [.int 3, .int (gI g 42 4)] g (some (.int (nI (3 ^ nW (pageS h 48))))) g by rw [h4, ← pow_3 _ (by omega)]; exact m_power (by omega))) (Nat.le_of_ble_eq_true rfl) ?_
      refine wh_icmp_ge (pc := 23) (tgt := 156) d_Md_findCheap_23 (by decide) (fun c_23 => absurd c_23 (nI_ge hi (by omega))) (fun c_23 => ?_)
      refine wh_aload_n (pc := 26) d_Md_findCheap_26 rfl rfl ?_
      refine gf_Md_66 (pc := 27) rfl d_Md_findCheap_27 ?_
      refine wh_if_le (pc := 30) (tgt := 156) d_Md_findCheap_30 (by decide) (fun c_30 => absurd c_30 (by rw [h4]; exact nI_nle (by omega) (by omega))) (fun c_30 => ?_)
      refine wh_aload_n (pc := 33) d_Md_findCheap_33 rfl rfl ?_
      refine cv_Md_180_d (pc := 34) rfl d_Md_findCheap_34 ⟨⟨by decide, by decide⟩, rfl, rfl⟩ (m_begin) (Nat.le_of_ble_eq_true rfl) ?_
      refine wh_iconst (pc := 37) (v := 1) d_Md_findCheap_37 (by decide) ?_
      refine wh_istore_n (pc := 38) (ls2 := [_, _, _, _]) d_Md_findCheap_38 rfl (by decide) rfl rfl ?_
      refine wh_iconst (pc := 39) (v := 0) d_Md_findCheap_39 (by decide) ?_
      refine wh_istore_n (pc := 40) (ls2 := [_, _, _, _]) d_Md_findCheap_40 rfl (by decide) rfl rfl ?_
      refine wh_eq (wh_loop (nW (pageS h 48)) (fun q => [some (.ref 42), some (.int (nI i)), some (.int (rowN (thS (pageS h 48) i) q)), some (.int (nI q))]) (fun q => (fillA (bgH g) 49 (fun k => nI (i / 3 ^ (nW (pageS h 48) - 1 - k) % 3 * 3)) q)) (fun _ => True) ?_ ?_ 0 (Nat.zero_le _) trivial) rfl rfl (fill_0 _ _ _).symm
      · intro _
        refine wh_iload_n (pc := 41) d_Md_findCheap_41 rfl rfl ?_
        refine wh_aload_n (pc := 42) d_Md_findCheap_42 rfl rfl ?_
        refine gf_Md_66 (pc := 43) rfl d_Md_findCheap_43 ?_
        refine wh_icmp_ge (pc := 46) (tgt := 95) d_Md_findCheap_46 (by decide) (fun c_46 => ?_) (fun c_46 => absurd (by rw [h4q]; exact nI_le (Nat.le_refl _) (by omega)) c_46)
        refine wh_aload_n (pc := 95) d_Md_findCheap_95 rfl rfl ?_
        refine wh_aload_n (pc := 96) d_Md_findCheap_96 rfl rfl ?_
        refine gf_Md_28 (pc := 97) rfl d_Md_findCheap_97 ?_
        refine cv_Md_148_d (pc := 100) rfl d_Md_findCheap_100 ⟨⟨by decide, by decide⟩, rfl, rfl⟩ (m_lay (Or.inr rfl) hT hTF) (Nat.le_of_ble_eq_true rfl) ?_
        refine wh_istore_n (pc := 103) (ls2 := [_, _, _, _]) d_Md_findCheap_103 rfl (by decide) rfl rfl ?_
        refine wh_aload_n (pc := 104) d_Md_findCheap_104 rfl rfl ?_
        refine wh_aload_n (pc := 105) d_Md_findCheap_105 rfl rfl ?_
        refine gf_Md_28 (pc := 106) rfl d_Md_findCheap_106 ?_
        refine cv_Md_151_d (pc := 109) rfl d_Md_findCheap_109 ⟨⟨by decide, by decide⟩, rfl, rfl⟩ (m_readers (Or.inr rfl) hTL hTF) (Nat.le_of_ble_eq_true rfl) ?_
        refine wh_iconst (pc := 112) (v := 1) d_Md_findCheap_112 (by decide) ?_
        refine wh_aload_n (pc := 113) d_Md_findCheap_113 rfl rfl ?_
        refine gf_Md_66 (pc := 114) rfl d_Md_findCheap_114 ?_
        refine wh_ishl (pc := 117) d_Md_findCheap_117 ?_
        refine wh_iconst (pc := 118) (v := 1) d_Md_findCheap_118 (by decide) ?_
        refine wh_isub (pc := 119) d_Md_findCheap_119 ?_
        refine wh_icmp_ne (pc := 120) (tgt := 150) d_Md_findCheap_120 (by decide) (fun c_120 => ?_) (fun c_120 => ?_)
        · refine wh_iinc (pc := 150) (ls2 := [_, _, _, _]) d_Md_findCheap_150 rfl (nI_inc _) (by decide) rfl rfl ?_
          refine wh_goto (pc := 153) (tgt := 14) d_Md_findCheap_153 (by decide) ?_
          first | refine wh_drop (i := 2) (ls2 := [_, _, _, _]) rfl ?_ | skip
          refine wh_drop (i := 3) (ls2 := [_, _, _, _]) rfl ?_
          try simp only [gI_sM (show ¬ ((42 : Nat) = 42 ∧ (27 : Nat) = 28) by decide)]
          rw [hL4] at c_120
          try rw [hL27] at c_129
          try rw [hL27] at c_137
          first
            | (refine ih _ ⟨hfmL.tr ((fm_sI (by unfold scM; omega)).tr (fm_sI (by unfold scM; omega))), ?_, ?_⟩
               · rw [gI_sM (by decide), gI_sS, es, if_pos ⟨c_120, Or.inl c_129⟩]
               · rw [gI_sS, es, if_pos ⟨c_120, Or.inl c_129⟩])
            | (refine ih _ ⟨hfmL.tr ((fm_sI (by unfold scM; omega)).tr (fm_sI (by unfold scM; omega))), ?_, ?_⟩
               · rw [gI_sM (by decide), gI_sS, es, if_pos ⟨c_120, Or.inr (by rw [i_lt]; rw [i_le] at c_137; omega)⟩]
               · rw [gI_sS, es, if_pos ⟨c_120, Or.inr (by rw [i_lt]; rw [i_le] at c_137; omega)⟩])
            | (refine ih _ ⟨hfmL, ?_, ?_⟩
               · rw [hL27, es, if_neg (fun y => y.2.elim c_129 (fun y => by rw [i_lt] at y; rw [i_le] at c_137; omega))]
               · rw [hL28, es, if_neg (fun y => y.2.elim c_129 (fun y => by rw [i_lt] at y; rw [i_le] at c_137; omega))])
            | (refine ih _ ⟨hfmL, ?_, ?_⟩
               · rw [hL27, es, if_neg (fun y => c_120 y.1)]
               · rw [hL28, es, if_neg (fun y => c_120 y.1)])
        · refine wh_aload_n (pc := 123) d_Md_findCheap_123 rfl rfl ?_
          refine gf_Md_189 (pc := 124) rfl d_Md_findCheap_124 ?_
          refine wh_bipush (pc := 127) (v := (-9)) d_Md_findCheap_127 (by decide) ?_
          refine wh_icmp_eq (pc := 129) (tgt := 140) d_Md_findCheap_129 (by decide) (fun c_129 => ?_) (fun c_129 => ?_)
          · refine wh_aload_n (pc := 140) d_Md_findCheap_140 rfl rfl ?_
            refine wh_iload_n (pc := 141) d_Md_findCheap_141 rfl rfl ?_
            refine pf_Md_189 (pc := 142) rfl d_Md_findCheap_142 ?_
            refine wh_aload_n (pc := 145) d_Md_findCheap_145 rfl rfl ?_
            refine wh_iload_n (pc := 146) d_Md_findCheap_146 rfl rfl ?_
            refine pf_Md_192 (pc := 147) rfl d_Md_findCheap_147 ?_
            refine wh_iinc (pc := 150) (ls2 := [_, _, _, _]) d_Md_findCheap_150 rfl (nI_inc _) (by decide) rfl rfl ?_
            refine wh_goto (pc := 153) (tgt := 14) d_Md_findCheap_153 (by decide) ?_
            first | refine wh_drop (i := 2) (ls2 := [_, _, _, _]) rfl ?_ | skip
            refine wh_drop (i := 3) (ls2 := [_, _, _, _]) rfl ?_
            try simp only [gI_sM (show ¬ ((42 : Nat) = 42 ∧ (27 : Nat) = 28) by decide)]
            rw [hL4] at c_120
            try rw [hL27] at c_129
            try rw [hL27] at c_137
            first
              | (refine ih _ ⟨hfmL.tr ((fm_sI (by unfold scM; omega)).tr (fm_sI (by unfold scM; omega))), ?_, ?_⟩
                 · rw [gI_sM (by decide), gI_sS, es, if_pos ⟨c_120, Or.inl c_129⟩]
                 · rw [gI_sS, es, if_pos ⟨c_120, Or.inl c_129⟩])
              | (refine ih _ ⟨hfmL.tr ((fm_sI (by unfold scM; omega)).tr (fm_sI (by unfold scM; omega))), ?_, ?_⟩
                 · rw [gI_sM (by decide), gI_sS, es, if_pos ⟨c_120, Or.inr (by rw [i_lt]; rw [i_le] at c_137; omega)⟩]
                 · rw [gI_sS, es, if_pos ⟨c_120, Or.inr (by rw [i_lt]; rw [i_le] at c_137; omega)⟩])
              | (refine ih _ ⟨hfmL, ?_, ?_⟩
                 · rw [hL27, es, if_neg (fun y => y.2.elim c_129 (fun y => by rw [i_lt] at y; rw [i_le] at c_137; omega))]
                 · rw [hL28, es, if_neg (fun y => y.2.elim c_129 (fun y => by rw [i_lt] at y; rw [i_le] at c_137; omega))])
              | (refine ih _ ⟨hfmL, ?_, ?_⟩
                 · rw [hL27, es, if_neg (fun y => c_120 y.1)]
                 · rw [hL28, es, if_neg (fun y => c_120 y.1)])
          · refine wh_iload_n (pc := 132) d_Md_findCheap_132 rfl rfl ?_
            refine wh_aload_n (pc := 133) d_Md_findCheap_133 rfl rfl ?_
            refine gf_Md_189 (pc := 134) rfl d_Md_findCheap_134 ?_
            refine wh_icmp_ge (pc := 137) (tgt := 150) d_Md_findCheap_137 (by decide) (fun c_137 => ?_) (fun c_137 => ?_)
            · refine wh_iinc (pc := 150) (ls2 := [_, _, _, _]) d_Md_findCheap_150 rfl (nI_inc _) (by decide) rfl rfl ?_
              refine wh_goto (pc := 153) (tgt := 14) d_Md_findCheap_153 (by decide) ?_
              first | refine wh_drop (i := 2) (ls2 := [_, _, _, _]) rfl ?_ | skip
              refine wh_drop (i := 3) (ls2 := [_, _, _, _]) rfl ?_
              try simp only [gI_sM (show ¬ ((42 : Nat) = 42 ∧ (27 : Nat) = 28) by decide)]
              rw [hL4] at c_120
              try rw [hL27] at c_129
              try rw [hL27] at c_137
              first
                | (refine ih _ ⟨hfmL.tr ((fm_sI (by unfold scM; omega)).tr (fm_sI (by unfold scM; omega))), ?_, ?_⟩
                   · rw [gI_sM (by decide), gI_sS, es, if_pos ⟨c_120, Or.inl c_129⟩]
                   · rw [gI_sS, es, if_pos ⟨c_120, Or.inl c_129⟩])
                | (refine ih _ ⟨hfmL.tr ((fm_sI (by unfold scM; omega)).tr (fm_sI (by unfold scM; omega))), ?_, ?_⟩
                   · rw [gI_sM (by decide), gI_sS, es, if_pos ⟨c_120, Or.inr (by rw [i_lt]; rw [i_le] at c_137; omega)⟩]
                   · rw [gI_sS, es, if_pos ⟨c_120, Or.inr (by rw [i_lt]; rw [i_le] at c_137; omega)⟩])
                | (refine ih _ ⟨hfmL, ?_, ?_⟩
                   · rw [hL27, es, if_neg (fun y => y.2.elim c_129 (fun y => by rw [i_lt] at y; rw [i_le] at c_137; omega))]
                   · rw [hL28, es, if_neg (fun y => y.2.elim c_129 (fun y => by rw [i_lt] at y; rw [i_le] at c_137; omega))])
                | (refine ih _ ⟨hfmL, ?_, ?_⟩
                   · rw [hL27, es, if_neg (fun y => c_120 y.1)]
                   · rw [hL28, es, if_neg (fun y => c_120 y.1)])
            · refine wh_aload_n (pc := 140) d_Md_findCheap_140 rfl rfl ?_
              refine wh_iload_n (pc := 141) d_Md_findCheap_141 rfl rfl ?_
              refine pf_Md_189 (pc := 142) rfl d_Md_findCheap_142 ?_
              refine wh_aload_n (pc := 145) d_Md_findCheap_145 rfl rfl ?_
              refine wh_iload_n (pc := 146) d_Md_findCheap_146 rfl rfl ?_
              refine pf_Md_192 (pc := 147) rfl d_Md_findCheap_147 ?_
              refine wh_iinc (pc := 150) (ls2 := [_, _, _, _]) d_Md_findCheap_150 rfl (nI_inc _) (by decide) rfl rfl ?_
              refine wh_goto (pc := 153) (tgt := 14) d_Md_findCheap_153 (by decide) ?_
              first | refine wh_drop (i := 2) (ls2 := [_, _, _, _]) rfl ?_ | skip
              refine wh_drop (i := 3) (ls2 := [_, _, _, _]) rfl ?_
              try simp only [gI_sM (show ¬ ((42 : Nat) = 42 ∧ (27 : Nat) = 28) by decide)]
              rw [hL4] at c_120
              try rw [hL27] at c_129
              try rw [hL27] at c_137
              first
                | (refine ih _ ⟨hfmL.tr ((fm_sI (by unfold scM; omega)).tr (fm_sI (by unfold scM; omega))), ?_, ?_⟩
                   · rw [gI_sM (by decide), gI_sS, es, if_pos ⟨c_120, Or.inl c_129⟩]
                   · rw [gI_sS, es, if_pos ⟨c_120, Or.inl c_129⟩])
                | (refine ih _ ⟨hfmL.tr ((fm_sI (by unfold scM; omega)).tr (fm_sI (by unfold scM; omega))), ?_, ?_⟩
                   · rw [gI_sM (by decide), gI_sS, es, if_pos ⟨c_120, Or.inr (by rw [i_lt]; rw [i_le] at c_137; omega)⟩]
                   · rw [gI_sS, es, if_pos ⟨c_120, Or.inr (by rw [i_lt]; rw [i_le] at c_137; omega)⟩])
                | (refine ih _ ⟨hfmL, ?_, ?_⟩
                   · rw [hL27, es, if_neg (fun y => y.2.elim c_129 (fun y => by rw [i_lt] at y; rw [i_le] at c_137; omega))]
                   · rw [hL28, es, if_neg (fun y => y.2.elim c_129 (fun y => by rw [i_lt] at y; rw [i_le] at c_137; omega))])
                | (refine ih _ ⟨hfmL, ?_, ?_⟩
                   · rw [hL27, es, if_neg (fun y => c_120 y.1)]
                   · rw [hL28, es, if_neg (fun y => c_120 y.1)])
      · intro q hq _ ih2
        have ed : nI (nW (pageS h 48)) - 1 - nI q = nI (nW (pageS h 48) - 1 - q) := down_n hq (by omega)
        have hpq : 3 ^ (nW (pageS h 48) - 1 - q) ≤ 243 := pow_le5 (by omega)
        have hpp : 0 < 3 ^ (nW (pageS h 48) - 1 - q) := Nat.pos_of_ne_zero (by simp)
        have hdv : i / 3 ^ (nW (pageS h 48) - 1 - q) < 2 ^ 31 := Nat.lt_of_le_of_lt (Nat.div_le_self _ _) (by omega)
        refine wh_iload_n (pc := 41) d_Md_findCheap_41 rfl rfl ?_
        refine wh_aload_n (pc := 42) d_Md_findCheap_42 rfl rfl ?_
        refine gf_Md_66 (pc := 43) rfl d_Md_findCheap_43 ?_
        refine wh_icmp_ge (pc := 46) (tgt := 95) d_Md_findCheap_46 (by decide) (fun c_46 => absurd c_46 (by rw [h4q]; exact nI_ge hq (by omega))) (fun c_46 => ?_)
        refine wh_aload_n (pc := 49) d_Md_findCheap_49 rfl rfl ?_
        refine gf_Md_28 (pc := 50) rfl d_Md_findCheap_50 ?_
        refine wh_iconst (pc := 53) (v := 0) d_Md_findCheap_53 (by decide) ?_
        refine wh_iload_n (pc := 54) d_Md_findCheap_54 rfl rfl ?_
        refine wh_iadd (pc := 55) d_Md_findCheap_55 ?_
        refine wh_iconst (pc := 56) (v := 3) d_Md_findCheap_56 (by decide) ?_
        refine wh_iload_n (pc := 57) d_Md_findCheap_57 rfl rfl ?_
        refine wh_iconst (pc := 58) (v := 3) d_Md_findCheap_58 (by decide) ?_
        refine wh_aload_n (pc := 59) d_Md_findCheap_59 rfl rfl ?_
        refine gf_Md_66 (pc := 60) rfl d_Md_findCheap_60 ?_
        refine wh_iconst (pc := 63) (v := 1) d_Md_findCheap_63 (by decide) ?_
        refine wh_isub (pc := 64) d_Md_findCheap_64 ?_
        refine wh_iload_n (pc := 65) d_Md_findCheap_65 rfl rfl ?_
        refine wh_isub (pc := 66) d_Md_findCheap_66 ?_
        refine cs_Md_195_d (pc := 67) rfl d_Md_findCheap_67 ⟨⟨by decide, by decide⟩, rfl, rfl⟩ ((show SD l D base M_Md_power [.int 3, .int (gI (fillA (bgH g) 49 (fun k => nI (i / 3 ^ (nW (pageS h 48) - 1 - k) % 3 * 3)) q) 42 4 - 1 - nI q)] (fillA (bgH g) 49 (fun k => nI (i / 3 ^ (nW (pageS h 48) - 1 - k) % 3 * 3)) q) (some (.int (nI (3 ^ (nW (pageS h 48) - 1 - q))))) (fillA (bgH g) 49 (fun k => nI (i / 3 ^ (nW (pageS h 48) - 1 - k) % 3 * 3)) q) by rw [h4q, ed, ← pow_3 _ (by omega)]; exact m_power (by omega))) (Nat.le_of_ble_eq_true rfl) ?_
        refine wh_idiv (pc := 70) d_Md_findCheap_70 (nI_ne0 hpp (by omega)) ?_
        refine wh_iconst (pc := 71) (v := 3) d_Md_findCheap_71 (by decide) ?_
        refine wh_irem (pc := 72) d_Md_findCheap_72 (by decide) ?_
        refine wh_imul (pc := 73) d_Md_findCheap_73 ?_
        refine wh_iast (pc := 74) d_Md_findCheap_74 rfl (by first | exact in_nI (by omega) (by omega) | (simp only [a0, a5, a10, a19]; exact in_nI (by omega) (by omega)) | exact vp_in_iff.mpr (by decide)) ?_
        refine wh_bipush (pc := 75) (v := 10) d_Md_findCheap_75 (by decide) ?_
        refine wh_iload_n (pc := 77) d_Md_findCheap_77 rfl rfl ?_
        refine wh_imul (pc := 78) d_Md_findCheap_78 ?_
        refine wh_aload_n (pc := 79) d_Md_findCheap_79 rfl rfl ?_
        refine gf_Md_28 (pc := 80) rfl d_Md_findCheap_80 ?_
        refine wh_iconst (pc := 83) (v := 0) d_Md_findCheap_83 (by decide) ?_
        refine wh_iload_n (pc := 84) d_Md_findCheap_84 rfl rfl ?_
        refine wh_iadd (pc := 85) d_Md_findCheap_85 ?_
        refine wh_iald (pc := 86) d_Md_findCheap_86 rfl (by first | exact in_nI (by omega) (by omega) | (simp only [a0, a5, a10, a19]; exact in_nI (by omega) (by omega)) | exact vp_in_iff.mpr (by decide)) ?_
        refine wh_iadd (pc := 87) d_Md_findCheap_87 ?_
        refine wh_istore_n (pc := 88) (ls2 := [_, _, _, _]) d_Md_findCheap_88 rfl (by decide) rfl rfl ?_
        refine wh_iinc (pc := 89) (ls2 := [_, _, _, _]) d_Md_findCheap_89 rfl (nI_inc _) (by decide) rfl rfl ?_
        refine wh_goto (pc := 92) (tgt := 41) d_Md_findCheap_92 (by decide) ?_
        have ev : (3 : Int32) * (nI i / nI (3 ^ (nW (pageS h 48) - 1 - q)) - nI i / nI (3 ^ (nW (pageS h 48) - 1 - q)) / 3 * 3) = nI (i / 3 ^ (nW (pageS h 48) - 1 - q) % 3 * 3) := by
          rw [pk_div (by omega) hpp (by omega), show (3 : Int32) = nI 3 from rfl, pk_rem hdv (by decide) (by decide), pk_mul, Nat.mul_comm]
        rw [ev, a0, cl_nI (show q < 2 ^ 31 by omega), gI_sS]
        refine wh_eq (ih2 trivial) ?_ rfl (fill_s _ _ _ _ rfl)
        have er : rowN (thS (pageS h 48) i) (q + 1) = rowN (thS (pageS h 48) i) q * 10 + (thS (pageS h 48) i) 1 q := rfl
        rw [er, show (thS (pageS h 48) i) 1 q = nI (i / 3 ^ (nW (pageS h 48) - 1 - q) % 3 * 3) from if_pos ⟨rfl, hq⟩, Int32.mul_comm 10]
theorem r_cheap {l : Launch} {D : va_G} {base : Nat} {h : Hp} (hr : Rel h) (b : Int32) (hb : b = 0 ∨ b = 1) : SI l D base M_Md_cheap [.ref 42, .int b] h (fun g x => FM h g ∧ x = cheapF (laneS h 2) b) := by
  refine SP.of [some (.ref 42), some (.int b)] (by decide) rfl (Nat.le_of_ble_eq_true rfl) ?_
  obtain ⟨hSt, hF⟩ := hr.street
  have hw5 := hF.1.1
  have hm6 := hF.2.1.1
  have hF8 : WFS (pageS h 48) := by rw [← hSt]; exact hF
  have hP0 : pageS (sI h 42 0 0) 48 = pageS h 48 := fm_page fm_thr
  have hw := hr.w
  rw [hSt]
  refine wh_aload_n (pc := 0) d_Md_cheap_0 rfl rfl ?_
  refine wh_iconst (pc := 1) (v := 0) d_Md_cheap_1 (by decide) ?_
  refine pf_Md_62 (pc := 2) rfl d_Md_cheap_2 ?_
  refine wh_aload_n (pc := 5) d_Md_cheap_5 rfl rfl ?_
  refine cv_Md_198_v (pc := 6) rfl d_Md_cheap_6 ⟨⟨by decide, by decide⟩, rfl, rfl⟩ (r_findCheap hF8 fm_thr) (Nat.le_of_ble_eq_true rfl) (fun h_6 e_6 => ?_)
  refine wh_iload_n (pc := 9) d_Md_cheap_9 rfl rfl ?_
  refine wh_if_eq (pc := 10) (tgt := 20) d_Md_cheap_10 (by decide) (fun c_10 => ?_) (fun c_10 => ?_)
  · refine wh_aload_n (pc := 20) d_Md_cheap_20 rfl rfl ?_
    refine gf_Md_189 (pc := 21) rfl d_Md_cheap_21 ?_
    refine wh_iret (pc := 24) d_Md_cheap_24 rfl ?_
    rcases hb with rfl | rfl
    · first | exact ⟨_, rfl, e_6.1, e_6.2.1⟩ | exact absurd rfl c_10
    · first | exact ⟨_, rfl, e_6.1, e_6.2.2⟩ | exact absurd c_10 (by decide)
  · refine wh_aload_n (pc := 13) d_Md_cheap_13 rfl rfl ?_
    refine gf_Md_192 (pc := 14) rfl d_Md_cheap_14 ?_
    refine wh_goto (pc := 17) (tgt := 24) d_Md_cheap_17 (by decide) ?_
    refine wh_iret (pc := 24) d_Md_cheap_24 rfl ?_
    rcases hb with rfl | rfl
    · first | exact ⟨_, rfl, e_6.1, e_6.2.1⟩ | exact absurd rfl c_10
    · first | exact ⟨_, rfl, e_6.1, e_6.2.2⟩ | exact absurd c_10 (by decide)
theorem x_cheap {l : Launch} {D : va_G} {base : Nat} (b : Int32) (hb : b = 0 ∨ b = 1) : CMD l D base M_Lm_cheap M_Md_cheap [.int b] := CMD.q (fun h => cheapF (laneS h 2) b) (fun h h' f _ => by rw [fc_lane f]) (fun h hr => c_cheap hr b) (fun h hr => r_cheap hr b hb)

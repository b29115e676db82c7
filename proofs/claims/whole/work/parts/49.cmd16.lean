theorem m_gain0 {l : Launch} {D : va_G} {base : Nat} {h : Hp} {T : St} (hT : pageS h 49 = T) (hF : WFS T) {a : Nat} (ha : a < nW T) (h57 : gI h 57 a = owedF T a) : SD l D base M_Md_gainOf [.ref 42, .int (nI a), .int (nI 0)] h (some (.int (gnF T a 0))) h := by
  refine SP.of [some (.ref 42), some (.int (nI a)), some (.int (nI 0))] (by decide) rfl (Nat.le_of_ble_eq_true rfl) ?_
  have hw5 := hF.1.1
  refine wh_iload_n (pc := 0) d_Md_gainOf_0 rfl rfl ?_
  refine wh_iconst (pc := 1) (v := 1) d_Md_gainOf_1 (by decide) ?_
  refine wh_icmp_ne (pc := 2) (tgt := 16) d_Md_gainOf_2 (by decide) (fun c_2 => ?_) (fun c_2 => absurd c_2 (by decide))
  refine wh_aload_n (pc := 16) d_Md_gainOf_16 rfl rfl ?_
  refine wh_aload_n (pc := 17) d_Md_gainOf_17 rfl rfl ?_
  refine gf_Md_28 (pc := 18) rfl d_Md_gainOf_18 ?_
  refine wh_iload_n (pc := 21) d_Md_gainOf_21 rfl rfl ?_
  refine cv_Md_140_d (pc := 22) rfl d_Md_gainOf_22 ⟨⟨by decide, by decide⟩, rfl, rfl⟩ (m_reads (Or.inr rfl) hT hF ha) (Nat.le_of_ble_eq_true rfl) ?_
  refine wh_if_eq (pc := 25) (tgt := 32) d_Md_gainOf_25 (by decide) (fun c_25 => ?_) (fun c_25 => ?_)
  · refine wh_iconst (pc := 32) (v := 0) d_Md_gainOf_32 (by decide) ?_
    refine wh_iret (pc := 33) d_Md_gainOf_33 rfl ?_
    refine ⟨rfl, ?_⟩
    first | rfl | (show _ = some (Value.int (if readF T a then (3 : Int32) else 0)); rw [t01] at c_25; first | (rw [c_25]; rfl) | (rw [show readF T a = true by simpa using c_25]; rfl))
  · refine wh_iconst (pc := 28) (v := 3) d_Md_gainOf_28 (by decide) ?_
    refine wh_goto (pc := 29) (tgt := 33) d_Md_gainOf_29 (by decide) ?_
    refine wh_iret (pc := 33) d_Md_gainOf_33 rfl ?_
    refine ⟨rfl, ?_⟩
    first | rfl | (show _ = some (Value.int (if readF T a then (3 : Int32) else 0)); rw [t01] at c_25; first | (rw [c_25]; rfl) | (rw [show readF T a = true by simpa using c_25]; rfl))
theorem m_gain1 {l : Launch} {D : va_G} {base : Nat} {h : Hp} {T : St} (hT : pageS h 49 = T) (hF : WFS T) {a : Nat} (ha : a < nW T) (h57 : gI h 57 a = owedF T a) : SD l D base M_Md_gainOf [.ref 42, .int (nI a), .int (nI 1)] h (some (.int (gnF T a 1))) h := by
  refine SP.of [some (.ref 42), some (.int (nI a)), some (.int (nI 1))] (by decide) rfl (Nat.le_of_ble_eq_true rfl) ?_
  have hw5 := hF.1.1
  refine wh_iload_n (pc := 0) d_Md_gainOf_0 rfl rfl ?_
  refine wh_iconst (pc := 1) (v := 1) d_Md_gainOf_1 (by decide) ?_
  refine wh_icmp_ne (pc := 2) (tgt := 16) d_Md_gainOf_2 (by decide) (fun c_2 => absurd rfl c_2) (fun c_2 => ?_)
  refine wh_iconst (pc := 5) (v := 5) d_Md_gainOf_5 (by decide) ?_
  refine wh_aload_n (pc := 6) d_Md_gainOf_6 rfl rfl ?_
  refine gf_Md_53 (pc := 7) rfl d_Md_gainOf_7 ?_
  refine wh_iload_n (pc := 10) d_Md_gainOf_10 rfl rfl ?_
  refine wh_iald (pc := 11) d_Md_gainOf_11 rfl (by first | exact in_nI (by omega) (by omega) | (simp only [a0, a5, a10, a19]; exact in_nI (by omega) (by omega)) | exact vp_in_iff.mpr (by decide)) ?_
  rw [cl_nI (show a < 2 ^ 31 by omega), h57]
  refine wh_isub (pc := 12) d_Md_gainOf_12 ?_
  refine wh_goto (pc := 13) (tgt := 33) d_Md_gainOf_13 (by decide) ?_
  refine wh_iret (pc := 33) d_Md_gainOf_33 rfl ?_
  refine ⟨rfl, ?_⟩
  first | rfl | (show _ = some (Value.int (if readF T a then (3 : Int32) else 0)); rw [t01] at c_25; first | (rw [c_25]; rfl) | (rw [show readF T a = true by simpa using c_25]; rfl))
theorem m_gainOf {l : Launch} {D : va_G} {base : Nat} {h : Hp} {T : St} (hT : pageS h 49 = T) (hF : WFS T) {a x : Nat} (ha : a < nW T) (hx : x < 2) (h57 : gI h 57 a = owedF T a) : SD l D base M_Md_gainOf [.ref 42, .int (nI a), .int (nI x)] h (some (.int (gnF T a x))) h := by
  rcases (show x = 0 ∨ x = 1 by omega) with rfl | rfl
  · exact m_gain0 hT hF ha h57
  · exact m_gain1 hT hF ha h57
theorem xor_2 : ∀ k, k < 4 → (2 : Int32) * (nI k ^^^ 2) = nI (2 * ((k + 2) % 4)) := by decide +kernel
theorem xor_1 : ∀ k, k < 4 → (2 : Int32) * (nI k ^^^ 1) + 1 = nI (2 * (k + 1 - 2 * (k % 2)) + 1) := by decide +kernel
theorem two_k (k : Nat) : (2 : Int32) * nI k = nI (2 * k) := pk_mul 2 k
theorem two_k1 (k : Nat) : (2 : Int32) * nI k + 1 = nI (2 * k + 1) := by rw [two_k]; exact nI_1 _
def gnA (h g : Hp) (a b k : Nat) : Prop := ∀ j, j < k → gI g 58 (2 * j) = gainF (pageS h 48) a b (j / 2) (j % 2) ∧ gI g 58 (2 * j + 1) = gainF (pageS h 48) b a (j % 2) (j / 2)
theorem r_findRests {l : Launch} {D : va_G} {base : Nat} {h h0 : Hp} (hF8 : WFS (pageS h 48)) (hf0 : FM h h0) {a b : Nat} (ha : a < nW (pageS h 48)) (hb : b < nW (pageS h 48)) : SV l D base M_Md_findRests [.ref 42, .int (nI a), .int (nI b)] h0 (fun g => FM h g ∧ gI g 42 31 = (rsN (pageS h 48) a b 4).1 ∧ gI g 42 32 = (rsN (pageS h 48) a b 4).2) := by
  refine SP.of [some (.ref 42), some (.int (nI a)), some (.int (nI b)), none, none] (by decide) rfl (Nat.le_of_ble_eq_true rfl) ?_
  have hw5 := hF8.1.1
  have hm6 := hF8.2.1.1
  have hca := cl_nI (show a < 2 ^ 31 by omega)
  have hcb := cl_nI (show b < 2 ^ 31 by omega)
  refine wh_iconst (pc := 0) (v := 0) d_Md_findRests_0 (by decide) ?_
  refine wh_istore_n (pc := 1) (ls2 := [_, _, _, _, _]) d_Md_findRests_1 rfl (by decide) rfl rfl ?_
  refine wh_loopR 4 (fun i => [some (.ref 42), some (.int (nI a)), some (.int (nI b)), some (.int (nI i)), none]) (fun i g => FM h g ∧ gnA h g a b i) ?_ ?_ 0 _ (Nat.zero_le _) ⟨hf0, fun j hj => by omega⟩
  · intro g hI
    refine wh_iload_n (pc := 2) d_Md_findRests_2 rfl rfl ?_
    refine wh_iconst (pc := 3) (v := 4) d_Md_findRests_3 (by decide) ?_
    refine wh_icmp_ge (pc := 4) (tgt := 88) d_Md_findRests_4 (by decide) (fun c_4 => ?_) (fun c_4 => absurd (by decide) c_4)
    refine wh_aload_n (pc := 88) d_Md_findRests_88 rfl rfl ?_
    refine wh_iconst (pc := 89) (v := 0) d_Md_findRests_89 (by decide) ?_
    refine pf_Md_231 (pc := 90) rfl d_Md_findRests_90 ?_
    refine wh_aload_n (pc := 93) d_Md_findRests_93 rfl rfl ?_
    refine wh_bipush (pc := 94) (v := (-9)) d_Md_findRests_94 (by decide) ?_
    refine pf_Md_234 (pc := 96) rfl d_Md_findRests_96 ?_
    refine wh_iconst (pc := 99) (v := 0) d_Md_findRests_99 (by decide) ?_
    refine wh_istore_n (pc := 100) (ls2 := [_, _, _, _, _]) d_Md_findRests_100 rfl (by decide) rfl rfl ?_
    refine wh_loopR 4 (fun i => [some (.ref 42), some (.int (nI a)), some (.int (nI b)), some (.int (nI i)), none]) (fun i g => FM h g ∧ gnA h g a b 4 ∧ gI g 42 31 = (rsN (pageS h 48) a b i).1 ∧ gI g 42 32 = (rsN (pageS h 48) a b i).2) ?_ ?_ 0 _ (Nat.zero_le _) ⟨(hI.1.tr (fm_sI (by unfold scM; omega))).tr (fm_sI (by unfold scM; omega)), fun j hj => by rw [gI_sN (by decide), gI_sN (by decide), gI_sN (by decide), gI_sN (by decide)]; exact hI.2 j hj, by rw [gI_sM (by decide), gI_sS]; rfl, by rw [gI_sS]; rfl⟩
    · intro g hI
      refine wh_iload_n (pc := 101) d_Md_findRests_101 rfl rfl ?_
      refine wh_iconst (pc := 102) (v := 4) d_Md_findRests_102 (by decide) ?_
      refine wh_icmp_ge (pc := 103) (tgt := 217) d_Md_findRests_103 (by decide) (fun c_103 => ?_) (fun c_103 => absurd (by decide) c_103)
      refine wh_vret (pc := 217) d_Md_findRests_217 rfl ?_
      exact ⟨rfl, hI.1, hI.2.2⟩
    · intro i g hi hI ih
      obtain ⟨hfm, hgn, h31, h32⟩ := hI
      obtain ⟨q1, q2, -, -⟩ := d2 hi
      have v1 : gI g 58 (nI (2 * ((i + 2) % 4))).toNatClampNeg = gainF (pageS h 48) a b (1 - i / 2) (i % 2) := by rw [cl_nI (by omega), (hgn ((i + 2) % 4) (by omega)).1, show (i + 2) % 4 / 2 = 1 - i / 2 by omega, show (i + 2) % 4 % 2 = i % 2 by omega]
      have v2 : gI g 58 (nI (2 * i)).toNatClampNeg = gainF (pageS h 48) a b (i / 2) (i % 2) := by rw [cl_nI (by omega)]; exact (hgn i hi).1
      have v3 : gI g 58 (nI (2 * (i + 1 - 2 * (i % 2)) + 1)).toNatClampNeg = gainF (pageS h 48) b a (1 - i % 2) (i / 2) := by rw [cl_nI (by omega), (hgn (i + 1 - 2 * (i % 2)) (by omega)).2, show (i + 1 - 2 * (i % 2)) / 2 = i / 2 by omega, show (i + 1 - 2 * (i % 2)) % 2 = 1 - i % 2 by omega]
      have v4 : gI g 58 (nI (2 * i + 1)).toNatClampNeg = gainF (pageS h 48) b a (i % 2) (i / 2) := by rw [cl_nI (by omega)]; exact (hgn i hi).2
      have hz := rs_z (S := (pageS h 48)) (a := a) (b := b) (k := i) (by omega)
      refine wh_iload_n (pc := 101) d_Md_findRests_101 rfl rfl ?_
      refine wh_iconst (pc := 102) (v := 4) d_Md_findRests_102 (by decide) ?_
      refine wh_icmp_ge (pc := 103) (tgt := 217) d_Md_findRests_103 (by decide) (fun c_103 => absurd c_103 (nI_ge hi (by decide))) (fun c_103 => ?_)
      refine wh_aload_n (pc := 106) d_Md_findRests_106 rfl rfl ?_
      refine gf_Md_56 (pc := 107) rfl d_Md_findRests_107 ?_
      refine wh_iconst (pc := 110) (v := 2) d_Md_findRests_110 (by decide) ?_
      refine wh_iload_n (pc := 111) d_Md_findRests_111 rfl rfl ?_
      refine wh_iconst (pc := 112) (v := 2) d_Md_findRests_112 (by decide) ?_
      refine wh_ixor (pc := 113) d_Md_findRests_113 ?_
      refine wh_imul (pc := 114) d_Md_findRests_114 ?_
      rw [xor_2 i hi]
      refine wh_iald (pc := 115) d_Md_findRests_115 rfl (by first | exact in_nI (by omega) (by omega) | (simp only [a0, a5, a10, a19]; exact in_nI (by omega) (by omega)) | exact vp_in_iff.mpr (by decide)) ?_
      refine wh_aload_n (pc := 116) d_Md_findRests_116 rfl rfl ?_
      refine gf_Md_56 (pc := 117) rfl d_Md_findRests_117 ?_
      refine wh_iconst (pc := 120) (v := 2) d_Md_findRests_120 (by decide) ?_
      refine wh_iload_n (pc := 121) d_Md_findRests_121 rfl rfl ?_
      refine wh_imul (pc := 122) d_Md_findRests_122 ?_
      rw [two_k]
      refine wh_iald (pc := 123) d_Md_findRests_123 rfl (by first | exact in_nI (by omega) (by omega) | (simp only [a0, a5, a10, a19]; exact in_nI (by omega) (by omega)) | exact vp_in_iff.mpr (by decide)) ?_
      rw [v1, v2]
      refine wh_icmp_gt (pc := 124) (tgt := 156) d_Md_findRests_124 (by decide) (fun c_124 => ?_) (fun c_124 => ?_)
      · refine wh_iconst (pc := 156) (v := 0) d_Md_findRests_156 (by decide) ?_
        refine wh_istore (pc := 157) (ls2 := [_, _, _, _, _]) d_Md_findRests_157 (by decide) rfl rfl ?_
        refine wh_aload_n (pc := 159) d_Md_findRests_159 rfl rfl ?_
        refine wh_iload (pc := 160) d_Md_findRests_160 rfl ?_
        refine wh_if_eq (pc := 162) (tgt := 185) d_Md_findRests_162 (by decide) (fun c_162 => ?_) (fun c_162 => absurd (by decide) c_162)
        refine wh_aload_n (pc := 185) d_Md_findRests_185 rfl rfl ?_
        refine gf_Md_234 (pc := 186) rfl d_Md_findRests_186 ?_
        try rw [h32]
        refine pf_Md_234 (pc := 189) rfl d_Md_findRests_189 ?_
        refine wh_aload_n (pc := 192) d_Md_findRests_192 rfl rfl ?_
        refine wh_dup (pc := 193) d_Md_findRests_193 rfl ?_
        refine gf_Md_231 (pc := 194) rfl d_Md_findRests_194 ?_
        refine wh_iload (pc := 197) d_Md_findRests_197 rfl ?_
        refine wh_if_eq (pc := 199) (tgt := 206) d_Md_findRests_199 (by decide) (fun c_199 => ?_) (fun c_199 => absurd (by decide) c_199)
        refine wh_iconst (pc := 206) (v := 0) d_Md_findRests_206 (by decide) ?_
        rw [show gI (sI g 42 32 _) 42 31 = gI g 42 31 from gI_sM (by decide), h31]
        refine wh_iadd (pc := 207) d_Md_findRests_207 ?_
        refine pf_Md_231 (pc := 208) rfl d_Md_findRests_208 ?_
        refine wh_iinc (pc := 211) (ls2 := [_, _, _, _, _]) d_Md_findRests_211 rfl (nI_inc _) (by decide) rfl rfl ?_
        refine wh_goto (pc := 214) (tgt := 101) d_Md_findRests_214 (by decide) ?_
        refine wh_drop (i := 4) (ls2 := [_, _, _, _, _]) rfl ?_
        refine ih _ ⟨(hfm.tr (fm_sI (by unfold scM; omega))).tr (fm_sI (by unfold scM; omega)), fun j hj => by rw [gI_sN (by decide), gI_sN (by decide), gI_sN (by decide), gI_sN (by decide)]; exact hgn j hj, ?_, ?_⟩
        · rw [gI_sS]
          first
            | (rw [rs_n (st_n1 (nle_lt.mpr c_124)), Int32.add_zero]; done)
            | (rw [rs_n (st_n2 (nle_lt.mpr c_149)), Int32.add_zero]; done)
            | (rw [rs_y (st_y (nlt_le.mp c_124) (nlt_le.mp c_149))]; done)
        · rw [gI_sM (by decide), gI_sS]
          first
            | (rw [rs_n (st_n1 (nle_lt.mpr c_124))]; done)
            | (rw [rs_n (st_n2 (nle_lt.mpr c_149))]; done)
            | (rw [rs_y (st_y (nlt_le.mp c_124) (nlt_le.mp c_149)), if_pos (hz.mp c_169)]; done)
            | (rw [rs_y (st_y (nlt_le.mp c_124) (nlt_le.mp c_149)), if_neg (fun y => c_169 (hz.mpr y))]; done)
      · refine wh_aload_n (pc := 127) d_Md_findRests_127 rfl rfl ?_
        refine gf_Md_56 (pc := 128) rfl d_Md_findRests_128 ?_
        refine wh_iconst (pc := 131) (v := 2) d_Md_findRests_131 (by decide) ?_
        refine wh_iload_n (pc := 132) d_Md_findRests_132 rfl rfl ?_
        refine wh_iconst (pc := 133) (v := 1) d_Md_findRests_133 (by decide) ?_
        refine wh_ixor (pc := 134) d_Md_findRests_134 ?_
        refine wh_imul (pc := 135) d_Md_findRests_135 ?_
        refine wh_iconst (pc := 136) (v := 1) d_Md_findRests_136 (by decide) ?_
        refine wh_iadd (pc := 137) d_Md_findRests_137 ?_
        rw [xor_1 i hi]
        refine wh_iald (pc := 138) d_Md_findRests_138 rfl (by first | exact in_nI (by omega) (by omega) | (simp only [a0, a5, a10, a19]; exact in_nI (by omega) (by omega)) | exact vp_in_iff.mpr (by decide)) ?_
        refine wh_aload_n (pc := 139) d_Md_findRests_139 rfl rfl ?_
        refine gf_Md_56 (pc := 140) rfl d_Md_findRests_140 ?_
        refine wh_iconst (pc := 143) (v := 2) d_Md_findRests_143 (by decide) ?_
        refine wh_iload_n (pc := 144) d_Md_findRests_144 rfl rfl ?_
        refine wh_imul (pc := 145) d_Md_findRests_145 ?_
        refine wh_iconst (pc := 146) (v := 1) d_Md_findRests_146 (by decide) ?_
        refine wh_iadd (pc := 147) d_Md_findRests_147 ?_
        rw [two_k1]
        refine wh_iald (pc := 148) d_Md_findRests_148 rfl (by first | exact in_nI (by omega) (by omega) | (simp only [a0, a5, a10, a19]; exact in_nI (by omega) (by omega)) | exact vp_in_iff.mpr (by decide)) ?_
        rw [v3, v4]
        refine wh_icmp_gt (pc := 149) (tgt := 156) d_Md_findRests_149 (by decide) (fun c_149 => ?_) (fun c_149 => ?_)
        · refine wh_iconst (pc := 156) (v := 0) d_Md_findRests_156 (by decide) ?_
          refine wh_istore (pc := 157) (ls2 := [_, _, _, _, _]) d_Md_findRests_157 (by decide) rfl rfl ?_
          refine wh_aload_n (pc := 159) d_Md_findRests_159 rfl rfl ?_
          refine wh_iload (pc := 160) d_Md_findRests_160 rfl ?_
          refine wh_if_eq (pc := 162) (tgt := 185) d_Md_findRests_162 (by decide) (fun c_162 => ?_) (fun c_162 => absurd (by decide) c_162)
          refine wh_aload_n (pc := 185) d_Md_findRests_185 rfl rfl ?_
          refine gf_Md_234 (pc := 186) rfl d_Md_findRests_186 ?_
          try rw [h32]
          refine pf_Md_234 (pc := 189) rfl d_Md_findRests_189 ?_
          refine wh_aload_n (pc := 192) d_Md_findRests_192 rfl rfl ?_
          refine wh_dup (pc := 193) d_Md_findRests_193 rfl ?_
          refine gf_Md_231 (pc := 194) rfl d_Md_findRests_194 ?_
          refine wh_iload (pc := 197) d_Md_findRests_197 rfl ?_
          refine wh_if_eq (pc := 199) (tgt := 206) d_Md_findRests_199 (by decide) (fun c_199 => ?_) (fun c_199 => absurd (by decide) c_199)
          refine wh_iconst (pc := 206) (v := 0) d_Md_findRests_206 (by decide) ?_
          rw [show gI (sI g 42 32 _) 42 31 = gI g 42 31 from gI_sM (by decide), h31]
          refine wh_iadd (pc := 207) d_Md_findRests_207 ?_
          refine pf_Md_231 (pc := 208) rfl d_Md_findRests_208 ?_
          refine wh_iinc (pc := 211) (ls2 := [_, _, _, _, _]) d_Md_findRests_211 rfl (nI_inc _) (by decide) rfl rfl ?_
          refine wh_goto (pc := 214) (tgt := 101) d_Md_findRests_214 (by decide) ?_
          refine wh_drop (i := 4) (ls2 := [_, _, _, _, _]) rfl ?_
          refine ih _ ⟨(hfm.tr (fm_sI (by unfold scM; omega))).tr (fm_sI (by unfold scM; omega)), fun j hj => by rw [gI_sN (by decide), gI_sN (by decide), gI_sN (by decide), gI_sN (by decide)]; exact hgn j hj, ?_, ?_⟩
          · rw [gI_sS]
            first
              | (rw [rs_n (st_n1 (nle_lt.mpr c_124)), Int32.add_zero]; done)
              | (rw [rs_n (st_n2 (nle_lt.mpr c_149)), Int32.add_zero]; done)
              | (rw [rs_y (st_y (nlt_le.mp c_124) (nlt_le.mp c_149))]; done)
          · rw [gI_sM (by decide), gI_sS]
            first
              | (rw [rs_n (st_n1 (nle_lt.mpr c_124))]; done)
              | (rw [rs_n (st_n2 (nle_lt.mpr c_149))]; done)
              | (rw [rs_y (st_y (nlt_le.mp c_124) (nlt_le.mp c_149)), if_pos (hz.mp c_169)]; done)
              | (rw [rs_y (st_y (nlt_le.mp c_124) (nlt_le.mp c_149)), if_neg (fun y => c_169 (hz.mpr y))]; done)
        · refine wh_iconst (pc := 152) (v := 1) d_Md_findRests_152 (by decide) ?_
          refine wh_goto (pc := 153) (tgt := 157) d_Md_findRests_153 (by decide) ?_
          refine wh_istore (pc := 157) (ls2 := [_, _, _, _, _]) d_Md_findRests_157 (by decide) rfl rfl ?_
          refine wh_aload_n (pc := 159) d_Md_findRests_159 rfl rfl ?_
          refine wh_iload (pc := 160) d_Md_findRests_160 rfl ?_
          refine wh_if_eq (pc := 162) (tgt := 185) d_Md_findRests_162 (by decide) (fun c_162 => absurd c_162 (by decide)) (fun c_162 => ?_)
          refine wh_aload_n (pc := 165) d_Md_findRests_165 rfl rfl ?_
          refine gf_Md_231 (pc := 166) rfl d_Md_findRests_166 ?_
          rw [h31]
          refine wh_if_ne (pc := 169) (tgt := 185) d_Md_findRests_169 (by decide) (fun c_169 => ?_) (fun c_169 => ?_)
          · refine wh_aload_n (pc := 185) d_Md_findRests_185 rfl rfl ?_
            refine gf_Md_234 (pc := 186) rfl d_Md_findRests_186 ?_
            try rw [h32]
            refine pf_Md_234 (pc := 189) rfl d_Md_findRests_189 ?_
            refine wh_aload_n (pc := 192) d_Md_findRests_192 rfl rfl ?_
            refine wh_dup (pc := 193) d_Md_findRests_193 rfl ?_
            refine gf_Md_231 (pc := 194) rfl d_Md_findRests_194 ?_
            refine wh_iload (pc := 197) d_Md_findRests_197 rfl ?_
            refine wh_if_eq (pc := 199) (tgt := 206) d_Md_findRests_199 (by decide) (fun c_199 => absurd c_199 (by decide)) (fun c_199 => ?_)
            refine wh_iconst (pc := 202) (v := 1) d_Md_findRests_202 (by decide) ?_
            refine wh_goto (pc := 203) (tgt := 207) d_Md_findRests_203 (by decide) ?_
            rw [show gI (sI g 42 32 _) 42 31 = gI g 42 31 from gI_sM (by decide), h31]
            refine wh_iadd (pc := 207) d_Md_findRests_207 ?_
            refine pf_Md_231 (pc := 208) rfl d_Md_findRests_208 ?_
            refine wh_iinc (pc := 211) (ls2 := [_, _, _, _, _]) d_Md_findRests_211 rfl (nI_inc _) (by decide) rfl rfl ?_
            refine wh_goto (pc := 214) (tgt := 101) d_Md_findRests_214 (by decide) ?_
            refine wh_drop (i := 4) (ls2 := [_, _, _, _, _]) rfl ?_
            refine ih _ ⟨(hfm.tr (fm_sI (by unfold scM; omega))).tr (fm_sI (by unfold scM; omega)), fun j hj => by rw [gI_sN (by decide), gI_sN (by decide), gI_sN (by decide), gI_sN (by decide)]; exact hgn j hj, ?_, ?_⟩
            · rw [gI_sS]
              first
                | (rw [rs_n (st_n1 (nle_lt.mpr c_124)), Int32.add_zero]; done)
                | (rw [rs_n (st_n2 (nle_lt.mpr c_149)), Int32.add_zero]; done)
                | (rw [rs_y (st_y (nlt_le.mp c_124) (nlt_le.mp c_149))]; done)
            · rw [gI_sM (by decide), gI_sS]
              first
                | (rw [rs_n (st_n1 (nle_lt.mpr c_124))]; done)
                | (rw [rs_n (st_n2 (nle_lt.mpr c_149))]; done)
                | (rw [rs_y (st_y (nlt_le.mp c_124) (nlt_le.mp c_149)), if_pos (hz.mp c_169)]; done)
                | (rw [rs_y (st_y (nlt_le.mp c_124) (nlt_le.mp c_149)), if_neg (fun y => c_169 (hz.mpr y))]; done)
          · refine wh_bipush (pc := 172) (v := 10) d_Md_findRests_172 (by decide) ?_
            refine wh_iload_n (pc := 174) d_Md_findRests_174 rfl rfl ?_
            refine wh_iconst (pc := 175) (v := 2) d_Md_findRests_175 (by decide) ?_
            refine wh_idiv (pc := 176) d_Md_findRests_176 (by decide) ?_
            refine wh_imul (pc := 177) d_Md_findRests_177 ?_
            refine wh_iload_n (pc := 178) d_Md_findRests_178 rfl rfl ?_
            refine wh_iconst (pc := 179) (v := 2) d_Md_findRests_179 (by decide) ?_
            refine wh_irem (pc := 180) d_Md_findRests_180 (by decide) ?_
            refine wh_iadd (pc := 181) d_Md_findRests_181 ?_
            rw [q2, q1]
            refine wh_goto (pc := 182) (tgt := 189) d_Md_findRests_182 (by decide) ?_
            try rw [h32]
            refine pf_Md_234 (pc := 189) rfl d_Md_findRests_189 ?_
            refine wh_aload_n (pc := 192) d_Md_findRests_192 rfl rfl ?_
            refine wh_dup (pc := 193) d_Md_findRests_193 rfl ?_
            refine gf_Md_231 (pc := 194) rfl d_Md_findRests_194 ?_
            refine wh_iload (pc := 197) d_Md_findRests_197 rfl ?_
            refine wh_if_eq (pc := 199) (tgt := 206) d_Md_findRests_199 (by decide) (fun c_199 => absurd c_199 (by decide)) (fun c_199 => ?_)
            refine wh_iconst (pc := 202) (v := 1) d_Md_findRests_202 (by decide) ?_
            refine wh_goto (pc := 203) (tgt := 207) d_Md_findRests_203 (by decide) ?_
            rw [show gI (sI g 42 32 _) 42 31 = gI g 42 31 from gI_sM (by decide), h31]
            refine wh_iadd (pc := 207) d_Md_findRests_207 ?_
            refine pf_Md_231 (pc := 208) rfl d_Md_findRests_208 ?_
            refine wh_iinc (pc := 211) (ls2 := [_, _, _, _, _]) d_Md_findRests_211 rfl (nI_inc _) (by decide) rfl rfl ?_
            refine wh_goto (pc := 214) (tgt := 101) d_Md_findRests_214 (by decide) ?_
            refine wh_drop (i := 4) (ls2 := [_, _, _, _, _]) rfl ?_
            refine ih _ ⟨(hfm.tr (fm_sI (by unfold scM; omega))).tr (fm_sI (by unfold scM; omega)), fun j hj => by rw [gI_sN (by decide), gI_sN (by decide), gI_sN (by decide), gI_sN (by decide)]; exact hgn j hj, ?_, ?_⟩
            · rw [gI_sS]
              first
                | (rw [rs_n (st_n1 (nle_lt.mpr c_124)), Int32.add_zero]; done)
                | (rw [rs_n (st_n2 (nle_lt.mpr c_149)), Int32.add_zero]; done)
                | (rw [rs_y (st_y (nlt_le.mp c_124) (nlt_le.mp c_149))]; done)
            · rw [gI_sM (by decide), gI_sS]
              first
                | (rw [rs_n (st_n1 (nle_lt.mpr c_124))]; done)
                | (rw [rs_n (st_n2 (nle_lt.mpr c_149))]; done)
                | (rw [rs_y (st_y (nlt_le.mp c_124) (nlt_le.mp c_149)), if_pos (hz.mp c_169)]; done)
                | (rw [rs_y (st_y (nlt_le.mp c_124) (nlt_le.mp c_149)), if_neg (fun y => c_169 (hz.mpr y))]; done)
  · intro i g hi hI ih
    obtain ⟨hfm, hgn⟩ := hI
    have hgS : pageS g 48 = (pageS h 48) := fm_page hfm
    obtain ⟨q1, q2, -, -⟩ := d2 hi
    have hB : pageS (bgH g) 49 = (pageS h 48) := by rw [page_bg (by rw [hgS]; exact hw5) (by rw [hgS]; exact hm6), hgS]
    have ea : gI (bgH g) 49 (0 + nI a).toNatClampNeg = (pageS h 48) 1 a := by rw [a0, hca, ← hB]; exact pa1 (by rw [hB]; exact ha)
    have hB1 : pageS (sI (bgH g) 49 a ((pageS h 48) 1 a * nI (i / 2))) 49 = (setS (pageS h 48) 1 a ((pageS h 48) 1 a * nI (i / 2))) := by rw [page_s1 (by rw [hB]; exact ha) (by rw [hB]; exact hw5), hB]
    have eb : gI (sI (bgH g) 49 a ((pageS h 48) 1 a * nI (i / 2))) 49 (0 + nI b).toNatClampNeg = (setS (pageS h 48) 1 a ((pageS h 48) 1 a * nI (i / 2))) 1 b := by rw [a0, hcb, ← hB1]; exact pa1 (by rw [hB1, nW_set (by omega)]; exact hb)
    have hT : pageS (sI (sI (bgH g) 49 a ((pageS h 48) 1 a * nI (i / 2))) 49 b ((setS (pageS h 48) 1 a ((pageS h 48) 1 a * nI (i / 2))) 1 b * nI (i % 2))) 49 = (offS (pageS h 48) a b (i / 2) (i % 2)) := by rw [page_s1 (by rw [hB1, nW_set (by omega)]; exact hb) (by rw [hB1, nW_set (by omega)]; exact hw5), hB1, off_mul (by omega) (by omega)]
    have hTF : WFS (offS (pageS h 48) a b (i / 2) (i % 2)) := off_wf hF8 _ _ _ _
    have hTa : a < nW (offS (pageS h 48) a b (i / 2) (i % 2)) := by rw [off_nW]; exact ha
    have hTb : b < nW (offS (pageS h 48) a b (i / 2) (i % 2)) := by rw [off_nW]; exact hb
    have hTL : pageS (layH (sI (sI (bgH g) 49 a ((pageS h 48) 1 a * nI (i / 2))) 49 b ((setS (pageS h 48) 1 a ((pageS h 48) 1 a * nI (i / 2))) 1 b * nI (i % 2))) 49) 49 = (offS (pageS h 48) a b (i / 2) (i % 2)) := by rw [page_lay (Or.inr rfl), hT]
    have hTL1 : pageS (sI (layH (sI (sI (bgH g) 49 a ((pageS h 48) 1 a * nI (i / 2))) 49 b ((setS (pageS h 48) 1 a ((pageS h 48) 1 a * nI (i / 2))) 1 b * nI (i % 2))) 49) 58 (2 * i) (gnF (offS (pageS h 48) a b (i / 2) (i % 2)) a (i / 2))) 49 = (offS (pageS h 48) a b (i / 2) (i % 2)) := by rw [page_sI (Or.inr rfl) (by decide), hTL]
    have h57a : gI (layH (sI (sI (bgH g) 49 a ((pageS h 48) 1 a * nI (i / 2))) 49 b ((setS (pageS h 48) 1 a ((pageS h 48) 1 a * nI (i / 2))) 1 b * nI (i % 2))) 49) 57 a = owedF (offS (pageS h 48) a b (i / 2) (i % 2)) a := by rw [lay_57 (by rw [hT]; exact hTa), hT]
    have h57b : gI (sI (layH (sI (sI (bgH g) 49 a ((pageS h 48) 1 a * nI (i / 2))) 49 b ((setS (pageS h 48) 1 a ((pageS h 48) 1 a * nI (i / 2))) 1 b * nI (i % 2))) 49) 58 (2 * i) (gnF (offS (pageS h 48) a b (i / 2) (i % 2)) a (i / 2))) 57 b = owedF (offS (pageS h 48) a b (i / 2) (i % 2)) b := by rw [gI_sN (by decide), lay_57 (by rw [hT]; exact hTb), hT]
    have hL : FM h (layH (sI (sI (bgH g) 49 a ((pageS h 48) 1 a * nI (i / 2))) 49 b ((setS (pageS h 48) 1 a ((pageS h 48) 1 a * nI (i / 2))) 1 b * nI (i % 2))) 49) := (((hfm.tr fm_bg).tr (fm_sI (by unfold scM; omega))).tr (fm_sI (by unfold scM; omega))).tr fm_lay
    have h58 : ∀ j, gI (layH (sI (sI (bgH g) 49 a ((pageS h 48) 1 a * nI (i / 2))) 49 b ((setS (pageS h 48) 1 a ((pageS h 48) 1 a * nI (i / 2))) 1 b * nI (i % 2))) 49) 58 j = gI g 58 j := fun j => by rw [lay_N (by decide) (by decide), gI_sN (by decide), gI_sN (by decide)]; exact gI_fillN (by decide)
    refine wh_iload_n (pc := 2) d_Md_findRests_2 rfl rfl ?_
    refine wh_iconst (pc := 3) (v := 4) d_Md_findRests_3 (by decide) ?_
    refine wh_icmp_ge (pc := 4) (tgt := 88) d_Md_findRests_4 (by decide) (fun c_4 => absurd c_4 (nI_ge hi (by decide))) (fun c_4 => ?_)
    refine wh_aload_n (pc := 7) d_Md_findRests_7 rfl rfl ?_
    refine cv_Md_180_d (pc := 8) rfl d_Md_findRests_8 ⟨⟨by decide, by decide⟩, rfl, rfl⟩ ((show SD l D base M_Md_begin [.ref 42] g none (bgH g) from m_begin)) (Nat.le_of_ble_eq_true rfl) ?_
    refine wh_aload_n (pc := 11) d_Md_findRests_11 rfl rfl ?_
    refine gf_Md_28 (pc := 12) rfl d_Md_findRests_12 ?_
    refine wh_iconst (pc := 15) (v := 0) d_Md_findRests_15 (by decide) ?_
    refine wh_iload_n (pc := 16) d_Md_findRests_16 rfl rfl ?_
    refine wh_iadd (pc := 17) d_Md_findRests_17 ?_
    refine wh_dup2 (pc := 18) d_Md_findRests_18 rfl rfl ?_
    refine wh_iald (pc := 19) d_Md_findRests_19 rfl (by rw [a0]; exact in_nI (show a < 24 by omega) (by omega)) ?_
    refine wh_iload_n (pc := 20) d_Md_findRests_20 rfl rfl ?_
    refine wh_iconst (pc := 21) (v := 2) d_Md_findRests_21 (by decide) ?_
    refine wh_idiv (pc := 22) d_Md_findRests_22 (by decide) ?_
    rw [ea, q1]
    refine wh_imul (pc := 23) d_Md_findRests_23 ?_
    refine wh_iast (pc := 24) d_Md_findRests_24 rfl (by rw [a0]; exact in_nI (show a < 24 by omega) (by omega)) ?_
    rw [a0, hca]
    refine wh_aload_n (pc := 25) d_Md_findRests_25 rfl rfl ?_
    refine gf_Md_28 (pc := 26) rfl d_Md_findRests_26 ?_
    refine wh_iconst (pc := 29) (v := 0) d_Md_findRests_29 (by decide) ?_
    refine wh_iload_n (pc := 30) d_Md_findRests_30 rfl rfl ?_
    refine wh_iadd (pc := 31) d_Md_findRests_31 ?_
    refine wh_dup2 (pc := 32) d_Md_findRests_32 rfl rfl ?_
    refine wh_iald (pc := 33) d_Md_findRests_33 rfl (by rw [a0]; exact in_nI (show b < 24 by omega) (by omega)) ?_
    refine wh_iload_n (pc := 34) d_Md_findRests_34 rfl rfl ?_
    refine wh_iconst (pc := 35) (v := 2) d_Md_findRests_35 (by decide) ?_
    refine wh_irem (pc := 36) d_Md_findRests_36 (by decide) ?_
    rw [eb, q2]
    refine wh_imul (pc := 37) d_Md_findRests_37 ?_
    refine wh_iast (pc := 38) d_Md_findRests_38 rfl (by rw [a0]; exact in_nI (show b < 24 by omega) (by omega)) ?_
    rw [a0, hcb]
    refine wh_aload_n (pc := 39) d_Md_findRests_39 rfl rfl ?_
    refine wh_aload_n (pc := 40) d_Md_findRests_40 rfl rfl ?_
    refine gf_Md_28 (pc := 41) rfl d_Md_findRests_41 ?_
    refine cv_Md_148_d (pc := 44) rfl d_Md_findRests_44 ⟨⟨by decide, by decide⟩, rfl, rfl⟩ (m_lay (Or.inr rfl) hT hTF) (Nat.le_of_ble_eq_true rfl) ?_
    refine wh_pop (pc := 47) d_Md_findRests_47 rfl ?_
    refine wh_aload_n (pc := 48) d_Md_findRests_48 rfl rfl ?_
    refine gf_Md_56 (pc := 49) rfl d_Md_findRests_49 ?_
    refine wh_iconst (pc := 52) (v := 2) d_Md_findRests_52 (by decide) ?_
    refine wh_iload_n (pc := 53) d_Md_findRests_53 rfl rfl ?_
    refine wh_imul (pc := 54) d_Md_findRests_54 ?_
    rw [two_k]
    refine wh_aload_n (pc := 55) d_Md_findRests_55 rfl rfl ?_
    refine wh_iload_n (pc := 56) d_Md_findRests_56 rfl rfl ?_
    refine wh_iload_n (pc := 57) d_Md_findRests_57 rfl rfl ?_
    refine wh_iconst (pc := 58) (v := 2) d_Md_findRests_58 (by decide) ?_
    refine wh_idiv (pc := 59) d_Md_findRests_59 (by decide) ?_
    rw [q1]
    refine cv_Md_228_d (pc := 60) rfl d_Md_findRests_60 ⟨⟨by decide, by decide⟩, rfl, rfl⟩ (m_gainOf hTL hTF hTa (by omega) h57a) (Nat.le_of_ble_eq_true rfl) ?_
    refine wh_iast (pc := 63) d_Md_findRests_63 rfl (by first | exact in_nI (by omega) (by omega) | (simp only [a0, a5, a10, a19]; exact in_nI (by omega) (by omega)) | exact vp_in_iff.mpr (by decide)) ?_
    rw [cl_nI (by omega)]
    refine wh_aload_n (pc := 64) d_Md_findRests_64 rfl rfl ?_
    refine gf_Md_56 (pc := 65) rfl d_Md_findRests_65 ?_
    refine wh_iconst (pc := 68) (v := 2) d_Md_findRests_68 (by decide) ?_
    refine wh_iload_n (pc := 69) d_Md_findRests_69 rfl rfl ?_
    refine wh_imul (pc := 70) d_Md_findRests_70 ?_
    refine wh_iconst (pc := 71) (v := 1) d_Md_findRests_71 (by decide) ?_
    refine wh_iadd (pc := 72) d_Md_findRests_72 ?_
    rw [two_k1]
    refine wh_aload_n (pc := 73) d_Md_findRests_73 rfl rfl ?_
    refine wh_iload_n (pc := 74) d_Md_findRests_74 rfl rfl ?_
    refine wh_iload_n (pc := 75) d_Md_findRests_75 rfl rfl ?_
    refine wh_iconst (pc := 76) (v := 2) d_Md_findRests_76 (by decide) ?_
    refine wh_irem (pc := 77) d_Md_findRests_77 (by decide) ?_
    rw [q2]
    refine cv_Md_228_d (pc := 78) rfl d_Md_findRests_78 ⟨⟨by decide, by decide⟩, rfl, rfl⟩ (m_gainOf hTL1 hTF hTb (by omega) h57b) (Nat.le_of_ble_eq_true rfl) ?_
    refine wh_iast (pc := 81) d_Md_findRests_81 rfl (by first | exact in_nI (by omega) (by omega) | (simp only [a0, a5, a10, a19]; exact in_nI (by omega) (by omega)) | exact vp_in_iff.mpr (by decide)) ?_
    rw [cl_nI (by omega)]
    refine wh_iinc (pc := 82) (ls2 := [_, _, _, _, _]) d_Md_findRests_82 rfl (nI_inc _) (by decide) rfl rfl ?_
    refine wh_goto (pc := 85) (tgt := 2) d_Md_findRests_85 (by decide) ?_
    refine ih _ ⟨(hL.tr (fm_sI (by unfold scM; omega))).tr (fm_sI (by unfold scM; omega)), fun j hj => ?_⟩
    by_cases e : j = i
    · subst e
      refine ⟨?_, ?_⟩
      · rw [gI_sM (by omega), gI_sS]; rfl
      · rw [gI_sS, off_comm]; rfl
    · rw [gI_sM (by omega), gI_sM (by omega), gI_sM (by omega), gI_sM (by omega), h58, h58]
      exact hgn j (by omega)
theorem r_rests {l : Launch} {D : va_G} {base : Nat} {h : Hp} (hr : Rel h) (w o t : Int32) : SI l D base M_Md_rests [.ref 42, .int w, .int o, .int t] h (fun g x => FM h g ∧ x = resF (laneS h 2) w o t) := by
  refine SP.of [some (.ref 42), some (.int w), some (.int o), some (.int t)] (by decide) rfl (Nat.le_of_ble_eq_true rfl) ?_
  obtain ⟨hSt, hF⟩ := hr.street
  have hw5 := hF.1.1
  have hm6 := hF.2.1.1
  have hF8 : WFS (pageS h 48) := by rw [← hSt]; exact hF
  have hP0 : pageS (sI h 42 0 0) 48 = pageS h 48 := fm_page fm_thr
  have hw := hr.w
  rw [hSt] at hw5 hm6 ⊢
  rcases bI_two (w := w) (n := nW (pageS h 48)) (by omega) with hz | ⟨a, ha, rfl⟩
  · refine wh_aload_n (pc := 0) d_Md_rests_0 rfl rfl ?_
    refine wh_iconst (pc := 1) (v := 0) d_Md_rests_1 (by decide) ?_
    refine pf_Md_62 (pc := 2) rfl d_Md_rests_2 ?_
    refine wh_aload_n (pc := 5) d_Md_rests_5 rfl rfl ?_
    refine wh_iload_n (pc := 6) d_Md_rests_6 rfl rfl ?_
    refine cv_Md_157_d (pc := 7) rfl d_Md_rests_7 ⟨⟨by decide, by decide⟩, rfl, rfl⟩ (m_noW (n := nW (pageS h 48)) (by rw [gI_sI, if_neg (by decide)]; exact pf_w hF8) (by omega)) (Nat.le_of_ble_eq_true rfl) ?_
    refine wh_if_ne (pc := 10) (tgt := 21) d_Md_rests_10 (by decide) (fun c_10 => ?_) (fun c_10 => absurd c_10 (bN_n hz))
    refine wh_iconst (pc := 21) (v := (-1)) d_Md_rests_21 (by decide) ?_
    refine wh_iret (pc := 22) d_Md_rests_22 rfl ?_
    exact ⟨_, rfl, fm_thr, by unfold resF; rw [if_pos hz]⟩
  have hz := bI_k ha (show nW (pageS h 48) < 2 ^ 31 by omega)
  rcases bI_two (w := o) (n := nW (pageS h 48)) (by omega) with hy | ⟨b, hb, rfl⟩
  · refine wh_aload_n (pc := 0) d_Md_rests_0 rfl rfl ?_
    refine wh_iconst (pc := 1) (v := 0) d_Md_rests_1 (by decide) ?_
    refine pf_Md_62 (pc := 2) rfl d_Md_rests_2 ?_
    refine wh_aload_n (pc := 5) d_Md_rests_5 rfl rfl ?_
    refine wh_iload_n (pc := 6) d_Md_rests_6 rfl rfl ?_
    refine cv_Md_157_d (pc := 7) rfl d_Md_rests_7 ⟨⟨by decide, by decide⟩, rfl, rfl⟩ (m_noW (n := nW (pageS h 48)) (by rw [gI_sI, if_neg (by decide)]; exact pf_w hF8) (by omega)) (Nat.le_of_ble_eq_true rfl) ?_
    refine wh_if_ne (pc := 10) (tgt := 21) d_Md_rests_10 (by decide) (fun c_10 => absurd (bN_k ha (by omega)) c_10) (fun c_10 => ?_)
    refine wh_aload_n (pc := 13) d_Md_rests_13 rfl rfl ?_
    refine wh_iload_n (pc := 14) d_Md_rests_14 rfl rfl ?_
    refine cv_Md_157_d (pc := 15) rfl d_Md_rests_15 ⟨⟨by decide, by decide⟩, rfl, rfl⟩ (m_noW (n := nW (pageS h 48)) (by rw [gI_sI, if_neg (by decide)]; exact pf_w hF8) (by omega)) (Nat.le_of_ble_eq_true rfl) ?_
    refine wh_if_eq (pc := 18) (tgt := 23) d_Md_rests_18 (by decide) (fun c_18 => absurd c_18 (bN_n hy)) (fun c_18 => ?_)
    refine wh_iconst (pc := 21) (v := (-1)) d_Md_rests_21 (by decide) ?_
    refine wh_iret (pc := 22) d_Md_rests_22 rfl ?_
    exact ⟨_, rfl, fm_thr, by unfold resF; rw [if_neg hz, if_pos hy]⟩
  have hy := bI_k hb (show nW (pageS h 48) < 2 ^ 31 by omega)
  by_cases he : nI a = nI b
  · refine wh_aload_n (pc := 0) d_Md_rests_0 rfl rfl ?_
    refine wh_iconst (pc := 1) (v := 0) d_Md_rests_1 (by decide) ?_
    refine pf_Md_62 (pc := 2) rfl d_Md_rests_2 ?_
    refine wh_aload_n (pc := 5) d_Md_rests_5 rfl rfl ?_
    refine wh_iload_n (pc := 6) d_Md_rests_6 rfl rfl ?_
    refine cv_Md_157_d (pc := 7) rfl d_Md_rests_7 ⟨⟨by decide, by decide⟩, rfl, rfl⟩ (m_noW (n := nW (pageS h 48)) (by rw [gI_sI, if_neg (by decide)]; exact pf_w hF8) (by omega)) (Nat.le_of_ble_eq_true rfl) ?_
    refine wh_if_ne (pc := 10) (tgt := 21) d_Md_rests_10 (by decide) (fun c_10 => absurd (bN_k ha (by omega)) c_10) (fun c_10 => ?_)
    refine wh_aload_n (pc := 13) d_Md_rests_13 rfl rfl ?_
    refine wh_iload_n (pc := 14) d_Md_rests_14 rfl rfl ?_
    refine cv_Md_157_d (pc := 15) rfl d_Md_rests_15 ⟨⟨by decide, by decide⟩, rfl, rfl⟩ (m_noW (n := nW (pageS h 48)) (by rw [gI_sI, if_neg (by decide)]; exact pf_w hF8) (by omega)) (Nat.le_of_ble_eq_true rfl) ?_
    refine wh_if_eq (pc := 18) (tgt := 23) d_Md_rests_18 (by decide) (fun c_18 => ?_) (fun c_18 => absurd (bN_k hb (by omega)) c_18)
    refine wh_iload_n (pc := 23) d_Md_rests_23 rfl rfl ?_
    refine wh_iload_n (pc := 24) d_Md_rests_24 rfl rfl ?_
    refine wh_icmp_eq (pc := 25) (tgt := 38) d_Md_rests_25 (by decide) (fun c_25 => ?_) (fun c_25 => absurd he c_25)
    refine wh_bipush (pc := 38) (v := (-2)) d_Md_rests_38 (by decide) ?_
    refine wh_iret (pc := 40) d_Md_rests_40 rfl ?_
    exact ⟨_, rfl, fm_thr, by unfold resF; rw [if_neg hz, if_neg hy, if_pos he]⟩
  by_cases ht : t < 0 ∨ 1 < t
  · refine wh_aload_n (pc := 0) d_Md_rests_0 rfl rfl ?_
    refine wh_iconst (pc := 1) (v := 0) d_Md_rests_1 (by decide) ?_
    refine pf_Md_62 (pc := 2) rfl d_Md_rests_2 ?_
    refine wh_aload_n (pc := 5) d_Md_rests_5 rfl rfl ?_
    refine wh_iload_n (pc := 6) d_Md_rests_6 rfl rfl ?_
    refine cv_Md_157_d (pc := 7) rfl d_Md_rests_7 ⟨⟨by decide, by decide⟩, rfl, rfl⟩ (m_noW (n := nW (pageS h 48)) (by rw [gI_sI, if_neg (by decide)]; exact pf_w hF8) (by omega)) (Nat.le_of_ble_eq_true rfl) ?_
    refine wh_if_ne (pc := 10) (tgt := 21) d_Md_rests_10 (by decide) (fun c_10 => absurd (bN_k ha (by omega)) c_10) (fun c_10 => ?_)
    refine wh_aload_n (pc := 13) d_Md_rests_13 rfl rfl ?_
    refine wh_iload_n (pc := 14) d_Md_rests_14 rfl rfl ?_
    refine cv_Md_157_d (pc := 15) rfl d_Md_rests_15 ⟨⟨by decide, by decide⟩, rfl, rfl⟩ (m_noW (n := nW (pageS h 48)) (by rw [gI_sI, if_neg (by decide)]; exact pf_w hF8) (by omega)) (Nat.le_of_ble_eq_true rfl) ?_
    refine wh_if_eq (pc := 18) (tgt := 23) d_Md_rests_18 (by decide) (fun c_18 => ?_) (fun c_18 => absurd (bN_k hb (by omega)) c_18)
    refine wh_iload_n (pc := 23) d_Md_rests_23 rfl rfl ?_
    refine wh_iload_n (pc := 24) d_Md_rests_24 rfl rfl ?_
    refine wh_icmp_eq (pc := 25) (tgt := 38) d_Md_rests_25 (by decide) (fun c_25 => absurd c_25 he) (fun c_25 => ?_)
    refine wh_iload_n (pc := 28) d_Md_rests_28 rfl rfl ?_
    refine wh_i2l (pc := 29) d_Md_rests_29 ?_
    refine wh_lconst (pc := 30) (v := 0) d_Md_rests_30 (by decide) ?_
    refine wh_lconst (pc := 31) (v := 1) d_Md_rests_31 (by decide) ?_
    refine cs_Md_69_d (pc := 32) rfl d_Md_rests_32 ⟨⟨by decide, by decide⟩, rfl, rfl⟩ (m_in) (Nat.le_of_ble_eq_true rfl) ?_
    refine wh_if_ne (pc := 35) (tgt := 41) d_Md_rests_35 (by decide) (fun c_35 => absurd ((inL t 0 1 rfl rfl).mpr ht) c_35) (fun c_35 => ?_)
    refine wh_bipush (pc := 38) (v := (-2)) d_Md_rests_38 (by decide) ?_
    refine wh_iret (pc := 40) d_Md_rests_40 rfl ?_
    exact ⟨_, rfl, fm_thr, by unfold resF; rw [if_neg hz, if_neg hy, if_neg he, if_pos ht]⟩
  have hca := cl_nI (show a < 2 ^ 31 by omega)
  have hcb := cl_nI (show b < 2 ^ 31 by omega)
  refine wh_aload_n (pc := 0) d_Md_rests_0 rfl rfl ?_
  refine wh_iconst (pc := 1) (v := 0) d_Md_rests_1 (by decide) ?_
  refine pf_Md_62 (pc := 2) rfl d_Md_rests_2 ?_
  refine wh_aload_n (pc := 5) d_Md_rests_5 rfl rfl ?_
  refine wh_iload_n (pc := 6) d_Md_rests_6 rfl rfl ?_
  refine cv_Md_157_d (pc := 7) rfl d_Md_rests_7 ⟨⟨by decide, by decide⟩, rfl, rfl⟩ (m_noW (n := nW (pageS h 48)) (by rw [gI_sI, if_neg (by decide)]; exact pf_w hF8) (by omega)) (Nat.le_of_ble_eq_true rfl) ?_
  refine wh_if_ne (pc := 10) (tgt := 21) d_Md_rests_10 (by decide) (fun c_10 => absurd (bN_k ha (by omega)) c_10) (fun c_10 => ?_)
  refine wh_aload_n (pc := 13) d_Md_rests_13 rfl rfl ?_
  refine wh_iload_n (pc := 14) d_Md_rests_14 rfl rfl ?_
  refine cv_Md_157_d (pc := 15) rfl d_Md_rests_15 ⟨⟨by decide, by decide⟩, rfl, rfl⟩ (m_noW (n := nW (pageS h 48)) (by rw [gI_sI, if_neg (by decide)]; exact pf_w hF8) (by omega)) (Nat.le_of_ble_eq_true rfl) ?_
  refine wh_if_eq (pc := 18) (tgt := 23) d_Md_rests_18 (by decide) (fun c_18 => ?_) (fun c_18 => absurd (bN_k hb (by omega)) c_18)
  refine wh_iload_n (pc := 23) d_Md_rests_23 rfl rfl ?_
  refine wh_iload_n (pc := 24) d_Md_rests_24 rfl rfl ?_
  refine wh_icmp_eq (pc := 25) (tgt := 38) d_Md_rests_25 (by decide) (fun c_25 => absurd c_25 he) (fun c_25 => ?_)
  refine wh_iload_n (pc := 28) d_Md_rests_28 rfl rfl ?_
  refine wh_i2l (pc := 29) d_Md_rests_29 ?_
  refine wh_lconst (pc := 30) (v := 0) d_Md_rests_30 (by decide) ?_
  refine wh_lconst (pc := 31) (v := 1) d_Md_rests_31 (by decide) ?_
  refine cs_Md_69_d (pc := 32) rfl d_Md_rests_32 ⟨⟨by decide, by decide⟩, rfl, rfl⟩ (m_in) (Nat.le_of_ble_eq_true rfl) ?_
  refine wh_if_ne (pc := 35) (tgt := 41) d_Md_rests_35 (by decide) (fun c_35 => ?_) (fun c_35 => absurd c_35 (fun z => ht ((inL t 0 1 rfl rfl).mp z)))
  refine wh_aload_n (pc := 41) d_Md_rests_41 rfl rfl ?_
  refine wh_iload_n (pc := 42) d_Md_rests_42 rfl rfl ?_
  refine wh_iload_n (pc := 43) d_Md_rests_43 rfl rfl ?_
  refine cv_Md_237_v (pc := 44) rfl d_Md_rests_44 ⟨⟨by decide, by decide⟩, rfl, rfl⟩ (r_findRests hF8 fm_thr ha hb) (Nat.le_of_ble_eq_true rfl) (fun h_44 e_44 => ?_)
  refine wh_iload_n (pc := 47) d_Md_rests_47 rfl rfl ?_
  refine wh_if_ne (pc := 48) (tgt := 58) d_Md_rests_48 (by decide) (fun c_48 => ?_) (fun c_48 => ?_)
  · refine wh_aload_n (pc := 58) d_Md_rests_58 rfl rfl ?_
    refine gf_Md_234 (pc := 59) rfl d_Md_rests_59 ?_
    refine wh_iret (pc := 62) d_Md_rests_62 rfl ?_
    refine ⟨_, rfl, e_44.1, ?_⟩
    unfold resF
    rw [if_neg hz, if_neg hy, if_neg he, if_neg ht, hca, hcb]
    first | (rw [if_pos c_48]; exact e_44.2.1) | (rw [if_neg c_48]; exact e_44.2.2)
  · refine wh_aload_n (pc := 51) d_Md_rests_51 rfl rfl ?_
    refine gf_Md_231 (pc := 52) rfl d_Md_rests_52 ?_
    refine wh_goto (pc := 55) (tgt := 62) d_Md_rests_55 (by decide) ?_
    refine wh_iret (pc := 62) d_Md_rests_62 rfl ?_
    refine ⟨_, rfl, e_44.1, ?_⟩
    unfold resF
    rw [if_neg hz, if_neg hy, if_neg he, if_neg ht, hca, hcb]
    first | (rw [if_pos c_48]; exact e_44.2.1) | (rw [if_neg c_48]; exact e_44.2.2)
theorem x_rests {l : Launch} {D : va_G} {base : Nat} (w o t : Int32) : CMD l D base M_Lm_rests M_Md_rests [.int w, .int o, .int t] := CMD.q (fun h => resF (laneS h 2) w o t) (fun h h' f _ => by rw [fc_lane f]) (fun h hr => c_rests hr w o t) (fun h hr => r_rests hr w o t)

theorem m_pull {l : Launch} {D : va_G} {base : Nat} {p : Nat} (hp0 : IsPage p) {h : Hp} {S : St} (hS : pageS h p = S) (hF : WFS S) {k j : Nat} (hk : k < nW S) (hj : j < nM S) : SD l D base M_Md_pullOf [.ref 42, .ref p, .int (nI k), .int (nI j)] h (some (.int (pullF S k j))) h := by
  refine SP.of [some (.ref 42), some (.ref p), some (.int (nI k)), some (.int (nI j)), none, none, none] (by decide) rfl (Nat.le_of_ble_eq_true rfl) ?_
  subst hS
  have hw5 := hF.1.1
  have hm6 := hF.2.1.1
  have hp := pg_sh hp0
  refine wh_aload_n (pc := 0) d_Md_pullOf_0 rfl rfl ?_
  refine wh_iconst (pc := 1) (v := 0) d_Md_pullOf_1 (by decide) ?_
  refine wh_iload_n (pc := 2) d_Md_pullOf_2 rfl rfl ?_
  refine wh_iadd (pc := 3) d_Md_pullOf_3 ?_
  refine wh_iald (pc := 4) d_Md_pullOf_4 hp (by first | exact in_nI (by omega) (by omega) | (simp only [a0, a5, a10, a19]; exact in_nI (by omega) (by omega)) | exact vp_in_iff.mpr (by decide)) ?_
  refine wh_istore (pc := 5) (ls2 := [_, _, _, _, _, _, _]) d_Md_pullOf_5 (by decide) rfl rfl ?_
  refine wh_iload (pc := 7) d_Md_pullOf_7 rfl ?_
  refine wh_if_ne (pc := 9) (tgt := 14) d_Md_pullOf_9 (by decide) (fun c_9 => ?_) (fun c_9 => ?_)
  · have hz : ¬ pageS h p 1 k = 0 := by rw [a0, cl_nI (show k < 2 ^ 31 by omega), pa1 hk] at c_9; exact c_9
    refine wh_eq ?_ (show _ = [some (.ref 42), some (.ref p), some (.int (nI k)), some (.int (nI j)), some (.int (pageS h p 1 k)), none, none] by simp only [a0, a10, a19, cl_nI (show k < 2 ^ 31 by omega), cl_nI (show j < 2 ^ 31 by omega), cl_nI (show 10 + j < 2 ^ 31 by omega), cl_nI (show 19 + k < 2 ^ 31 by omega), pa0 hk, pa1 hk, pa2 hk, pa3 hj, pa4 hj]) rfl rfl
    refine wh_aload_n (pc := 14) d_Md_pullOf_14 rfl rfl ?_
    refine wh_bipush (pc := 15) (v := 10) d_Md_pullOf_15 (by decide) ?_
    refine wh_iload_n (pc := 17) d_Md_pullOf_17 rfl rfl ?_
    refine wh_iadd (pc := 18) d_Md_pullOf_18 ?_
    refine wh_iald (pc := 19) d_Md_pullOf_19 hp (by first | exact in_nI (by omega) (by omega) | (simp only [a0, a5, a10, a19]; exact in_nI (by omega) (by omega)) | exact vp_in_iff.mpr (by decide)) ?_
    refine wh_aload_n (pc := 20) d_Md_pullOf_20 rfl rfl ?_
    refine wh_bipush (pc := 21) (v := 19) d_Md_pullOf_21 (by decide) ?_
    refine wh_iload_n (pc := 23) d_Md_pullOf_23 rfl rfl ?_
    refine wh_iadd (pc := 24) d_Md_pullOf_24 ?_
    refine wh_iald (pc := 25) d_Md_pullOf_25 hp (by first | exact in_nI (by omega) (by omega) | (simp only [a0, a5, a10, a19]; exact in_nI (by omega) (by omega)) | exact vp_in_iff.mpr (by decide)) ?_
    refine wh_isub (pc := 26) d_Md_pullOf_26 ?_
    refine wh_istore (pc := 27) (ls2 := [_, _, _, _, _, _, _]) d_Md_pullOf_27 (by decide) rfl rfl ?_
    refine wh_eq ?_ (show _ = [some (.ref 42), some (.ref p), some (.int (nI k)), some (.int (nI j)), some (.int (pageS h p 1 k)), some (.int (pageS h p 3 j - pageS h p 0 k)), none] by simp only [a0, a10, a19, cl_nI (show k < 2 ^ 31 by omega), cl_nI (show j < 2 ^ 31 by omega), cl_nI (show 10 + j < 2 ^ 31 by omega), cl_nI (show 19 + k < 2 ^ 31 by omega), pa0 hk, pa1 hk, pa2 hk, pa3 hj, pa4 hj]) rfl rfl
    refine wh_cut (pcj := 65) (lsj := [some (.ref 42), some (.ref p), some (.int (nI k)), some (.int (nI j)), some (.int (pageS h p 1 k)), some (.int (pageS h p 3 j - pageS h p 0 k)), none]) (stj := [.int (glowF (pageS h p 2 k) (pageS h p 1 k))]) (hj := h) ?_ (fun j_65 => ?_)
    · refine wh_istore (pc := 65) (ls2 := [_, _, _, _, _, _, _]) d_Md_pullOf_65 (by decide) rfl rfl ?_
      refine wh_iload (pc := 67) d_Md_pullOf_67 rfl ?_
      refine wh_cut (pcj := 99) (lsj := [some (.ref 42), some (.ref p), some (.int (nI k)), some (.int (nI j)), some (.int (pageS h p 1 k)), some (.int (pageS h p 3 j - pageS h p 0 k)), some (.int (glowF (pageS h p 2 k) (pageS h p 1 k)))]) (stj := [.int (helpF (pageS h p 5 2) (pageS h p 3 j - pageS h p 0 k)), .int (glowF (pageS h p 2 k) (pageS h p 1 k))]) (hj := h) ?_ (fun j_99 => ?_)
      · refine wh_iadd (pc := 99) d_Md_pullOf_99 ?_
        refine wh_istore (pc := 100) (ls2 := [_, _, _, _, _, _, _]) d_Md_pullOf_100 (by decide) rfl rfl ?_
        refine wh_iload (pc := 102) d_Md_pullOf_102 rfl ?_
        refine wh_cut (pcj := 117) (lsj := [some (.ref 42), some (.ref p), some (.int (nI k)), some (.int (nI j)), some (.int (pageS h p 1 k)), some (.int (pageS h p 3 j - pageS h p 0 k)), some (.int (glowF (pageS h p 2 k) (pageS h p 1 k) + helpF (pageS h p 5 2) (pageS h p 3 j - pageS h p 0 k)))]) (stj := [.int (absI (pageS h p 3 j - pageS h p 0 k)), .int (glowF (pageS h p 2 k) (pageS h p 1 k) + helpF (pageS h p 5 2) (pageS h p 3 j - pageS h p 0 k))]) (hj := h) ?_ (fun j_117 => ?_)
        · refine wh_isub (pc := 117) d_Md_pullOf_117 ?_
          refine wh_istore (pc := 118) (ls2 := [_, _, _, _, _, _, _]) d_Md_pullOf_118 (by decide) rfl rfl ?_
          refine wh_iload (pc := 120) d_Md_pullOf_120 rfl ?_
          refine wh_cut (pcj := 150) (lsj := [some (.ref 42), some (.ref p), some (.int (nI k)), some (.int (nI j)), some (.int (pageS h p 1 k)), some (.int (pageS h p 3 j - pageS h p 0 k)), some (.int (glowF (pageS h p 2 k) (pageS h p 1 k) + helpF (pageS h p 5 2) (pageS h p 3 j - pageS h p 0 k) - absI (pageS h p 3 j - pageS h p 0 k)))]) (stj := [.int (swF (pageS h p 4 j) (pageS h p 5 3) (pageS h p 0 k)), .int (glowF (pageS h p 2 k) (pageS h p 1 k) + helpF (pageS h p 5 2) (pageS h p 3 j - pageS h p 0 k) - absI (pageS h p 3 j - pageS h p 0 k))]) (hj := h) ?_ (fun j_150 => ?_)
          · refine wh_iadd (pc := 150) d_Md_pullOf_150 ?_
            refine wh_istore (pc := 151) (ls2 := [_, _, _, _, _, _, _]) d_Md_pullOf_151 (by decide) rfl rfl ?_
            refine wh_iload (pc := 153) d_Md_pullOf_153 rfl ?_
            refine wh_if_ge (pc := 155) (tgt := 162) d_Md_pullOf_155 (by decide) (fun c_155 => ?_) (fun c_155 => ?_)
            · refine wh_iload (pc := 162) d_Md_pullOf_162 rfl ?_
              refine wh_iret (pc := 164) d_Md_pullOf_164 rfl ?_
              refine ⟨rfl, ?_⟩
              unfold pullF
              rw [if_neg hz]
              first | (rw [if_neg (by rw [i_lt]; rw [i_le] at c_155; omega)]; done) | (rw [if_pos (by rw [i_lt]; rw [i_le] at c_155; omega)]; done)
            · refine wh_iconst (pc := 158) (v := 0) d_Md_pullOf_158 (by decide) ?_
              refine wh_goto (pc := 159) (tgt := 164) d_Md_pullOf_159 (by decide) ?_
              refine wh_iret (pc := 164) d_Md_pullOf_164 rfl ?_
              refine ⟨rfl, ?_⟩
              unfold pullF
              rw [if_neg hz]
              first | (rw [if_neg (by rw [i_lt]; rw [i_le] at c_155; omega)]; done) | (rw [if_pos (by rw [i_lt]; rw [i_le] at c_155; omega)]; done)
          · refine wh_aload_n (pc := 122) d_Md_pullOf_122 rfl rfl ?_
            refine gf_Md_16 (pc := 123) rfl d_Md_pullOf_123 ?_
            refine wh_iload_n (pc := 126) d_Md_pullOf_126 rfl rfl ?_
            refine wh_iald (pc := 127) d_Md_pullOf_127 rfl (by first | exact in_nI (by omega) (by omega) | (simp only [a0, a5, a10, a19]; exact in_nI (by omega) (by omega)) | exact vp_in_iff.mpr (by decide)) ?_
            refine wh_iconst (pc := 128) (v := 3) d_Md_pullOf_128 (by decide) ?_
            refine wh_icmp_ne (pc := 129) (tgt := 149) d_Md_pullOf_129 (by decide) (fun c_129 => ?_) (fun c_129 => ?_)
            · refine wh_iconst (pc := 149) (v := 0) d_Md_pullOf_149 (by decide) ?_
              refine wh_eq j_150 rfl ?_ rfl
              have e17 : gI h p (Int32.toNatClampNeg 17) = pageS h p 5 3 := rfl
              try rw [e17] at c_142
              simp only [a0, a10, a19, cl_nI (show k < 2 ^ 31 by omega), cl_nI (show j < 2 ^ 31 by omega), cl_nI (show 10 + j < 2 ^ 31 by omega), cl_nI (show 19 + k < 2 ^ 31 by omega), pa0 hk, pa1 hk, pa2 hk, pa3 hj, pa4 hj] at *
              unfold swF
              first | (rw [if_pos ⟨c_129, c_142⟩]; done) | (rw [if_neg (fun q => c_129 q.1)]; done) | (rw [if_neg (fun q => c_142 q.2)]; done)
            · refine wh_aload_n (pc := 132) d_Md_pullOf_132 rfl rfl ?_
              refine wh_bipush (pc := 133) (v := 17) d_Md_pullOf_133 (by decide) ?_
              refine wh_iald (pc := 135) d_Md_pullOf_135 hp (by first | exact in_nI (by omega) (by omega) | (simp only [a0, a5, a10, a19]; exact in_nI (by omega) (by omega)) | exact vp_in_iff.mpr (by decide)) ?_
              refine wh_aload_n (pc := 136) d_Md_pullOf_136 rfl rfl ?_
              refine wh_bipush (pc := 137) (v := 19) d_Md_pullOf_137 (by decide) ?_
              refine wh_iload_n (pc := 139) d_Md_pullOf_139 rfl rfl ?_
              refine wh_iadd (pc := 140) d_Md_pullOf_140 ?_
              refine wh_iald (pc := 141) d_Md_pullOf_141 hp (by first | exact in_nI (by omega) (by omega) | (simp only [a0, a5, a10, a19]; exact in_nI (by omega) (by omega)) | exact vp_in_iff.mpr (by decide)) ?_
              refine wh_icmp_ne (pc := 142) (tgt := 149) d_Md_pullOf_142 (by decide) (fun c_142 => ?_) (fun c_142 => ?_)
              · refine wh_iconst (pc := 149) (v := 0) d_Md_pullOf_149 (by decide) ?_
                refine wh_eq j_150 rfl ?_ rfl
                have e17 : gI h p (Int32.toNatClampNeg 17) = pageS h p 5 3 := rfl
                try rw [e17] at c_142
                simp only [a0, a10, a19, cl_nI (show k < 2 ^ 31 by omega), cl_nI (show j < 2 ^ 31 by omega), cl_nI (show 10 + j < 2 ^ 31 by omega), cl_nI (show 19 + k < 2 ^ 31 by omega), pa0 hk, pa1 hk, pa2 hk, pa3 hj, pa4 hj] at *
                unfold swF
                first | (rw [if_pos ⟨c_129, c_142⟩]; done) | (rw [if_neg (fun q => c_129 q.1)]; done) | (rw [if_neg (fun q => c_142 q.2)]; done)
              · refine wh_iconst (pc := 145) (v := 3) d_Md_pullOf_145 (by decide) ?_
                refine wh_goto (pc := 146) (tgt := 150) d_Md_pullOf_146 (by decide) ?_
                refine wh_eq j_150 rfl ?_ rfl
                have e17 : gI h p (Int32.toNatClampNeg 17) = pageS h p 5 3 := rfl
                try rw [e17] at c_142
                simp only [a0, a10, a19, cl_nI (show k < 2 ^ 31 by omega), cl_nI (show j < 2 ^ 31 by omega), cl_nI (show 10 + j < 2 ^ 31 by omega), cl_nI (show 19 + k < 2 ^ 31 by omega), pa0 hk, pa1 hk, pa2 hk, pa3 hj, pa4 hj] at *
                unfold swF
                first | (rw [if_pos ⟨c_129, c_142⟩]; done) | (rw [if_neg (fun q => c_129 q.1)]; done) | (rw [if_neg (fun q => c_142 q.2)]; done)
        · refine wh_iload (pc := 104) d_Md_pullOf_104 rfl ?_
          refine wh_if_ge (pc := 106) (tgt := 115) d_Md_pullOf_106 (by decide) (fun c_106 => ?_) (fun c_106 => ?_)
          · refine wh_iload (pc := 115) d_Md_pullOf_115 rfl ?_
            refine wh_eq j_117 rfl ?_ rfl
            unfold absI
            first | (rw [if_pos c_106]; done) | (rw [if_neg c_106]; done)
          · refine wh_iload (pc := 109) d_Md_pullOf_109 rfl ?_
            refine wh_ineg (pc := 111) d_Md_pullOf_111 ?_
            refine wh_goto (pc := 112) (tgt := 117) d_Md_pullOf_112 (by decide) ?_
            refine wh_eq j_117 rfl ?_ rfl
            unfold absI
            first | (rw [if_pos c_106]; done) | (rw [if_neg c_106]; done)
      · refine wh_aload_n (pc := 69) d_Md_pullOf_69 rfl rfl ?_
        refine wh_bipush (pc := 70) (v := 16) d_Md_pullOf_70 (by decide) ?_
        refine wh_iald (pc := 72) d_Md_pullOf_72 hp (by first | exact in_nI (by omega) (by omega) | (simp only [a0, a5, a10, a19]; exact in_nI (by omega) (by omega)) | exact vp_in_iff.mpr (by decide)) ?_
        refine wh_if_ne (pc := 73) (tgt := 81) d_Md_pullOf_73 (by decide) (fun c_73 => ?_) (fun c_73 => ?_)
        · refine wh_aload_n (pc := 81) d_Md_pullOf_81 rfl rfl ?_
          refine wh_bipush (pc := 82) (v := 16) d_Md_pullOf_82 (by decide) ?_
          refine wh_iald (pc := 84) d_Md_pullOf_84 hp (by first | exact in_nI (by omega) (by omega) | (simp only [a0, a5, a10, a19]; exact in_nI (by omega) (by omega)) | exact vp_in_iff.mpr (by decide)) ?_
          refine wh_iconst (pc := 85) (v := 2) d_Md_pullOf_85 (by decide) ?_
          refine wh_icmp_ne (pc := 86) (tgt := 98) d_Md_pullOf_86 (by decide) (fun c_86 => ?_) (fun c_86 => ?_)
          · refine wh_iconst (pc := 98) (v := 0) d_Md_pullOf_98 (by decide) ?_
            refine wh_eq j_99 rfl ?_ rfl
            have e16 : gI h p (Int32.toNatClampNeg 16) = pageS h p 5 2 := rfl
            rw [e16] at *
            unfold helpF
            first
              | (rw [if_pos (Or.inl ⟨c_73, c_78⟩)]; done)
              | (rw [if_pos (Or.inr ⟨c_86, by rw [i_lt]; rw [i_le] at c_91; omega⟩)]; done)
              | (rw [if_neg (fun q => q.elim (fun z => c_73 z.1) (fun z => c_86 z.2.1))]; done)
              | (rw [if_neg (fun q => q.elim (fun z => c_73 z.1) (fun z => c_86 z.1))]; done)
              | (rw [if_neg (fun q => q.elim (fun z => c_73 z.1) (fun z => by rw [i_lt] at z; rw [i_le] at c_91; omega))]; done)
              | (rw [if_neg (fun q => q.elim (fun z => c_78 z.2) (fun z => c_86 z.1))]; done)
              | (rw [if_neg (fun q => q.elim (fun z => c_78 z.2) (fun z => by rw [i_lt] at z; rw [i_le] at c_91; omega))]; done)
          · refine wh_iload (pc := 89) d_Md_pullOf_89 rfl ?_
            refine wh_if_ge (pc := 91) (tgt := 98) d_Md_pullOf_91 (by decide) (fun c_91 => ?_) (fun c_91 => ?_)
            · refine wh_iconst (pc := 98) (v := 0) d_Md_pullOf_98 (by decide) ?_
              refine wh_eq j_99 rfl ?_ rfl
              have e16 : gI h p (Int32.toNatClampNeg 16) = pageS h p 5 2 := rfl
              rw [e16] at *
              unfold helpF
              first
                | (rw [if_pos (Or.inl ⟨c_73, c_78⟩)]; done)
                | (rw [if_pos (Or.inr ⟨c_86, by rw [i_lt]; rw [i_le] at c_91; omega⟩)]; done)
                | (rw [if_neg (fun q => q.elim (fun z => c_73 z.1) (fun z => c_86 z.2.1))]; done)
                | (rw [if_neg (fun q => q.elim (fun z => c_73 z.1) (fun z => c_86 z.1))]; done)
                | (rw [if_neg (fun q => q.elim (fun z => c_73 z.1) (fun z => by rw [i_lt] at z; rw [i_le] at c_91; omega))]; done)
                | (rw [if_neg (fun q => q.elim (fun z => c_78 z.2) (fun z => c_86 z.1))]; done)
                | (rw [if_neg (fun q => q.elim (fun z => c_78 z.2) (fun z => by rw [i_lt] at z; rw [i_le] at c_91; omega))]; done)
            · refine wh_iconst (pc := 94) (v := 1) d_Md_pullOf_94 (by decide) ?_
              refine wh_goto (pc := 95) (tgt := 99) d_Md_pullOf_95 (by decide) ?_
              refine wh_eq j_99 rfl ?_ rfl
              have e16 : gI h p (Int32.toNatClampNeg 16) = pageS h p 5 2 := rfl
              rw [e16] at *
              unfold helpF
              first
                | (rw [if_pos (Or.inl ⟨c_73, c_78⟩)]; done)
                | (rw [if_pos (Or.inr ⟨c_86, by rw [i_lt]; rw [i_le] at c_91; omega⟩)]; done)
                | (rw [if_neg (fun q => q.elim (fun z => c_73 z.1) (fun z => c_86 z.2.1))]; done)
                | (rw [if_neg (fun q => q.elim (fun z => c_73 z.1) (fun z => c_86 z.1))]; done)
                | (rw [if_neg (fun q => q.elim (fun z => c_73 z.1) (fun z => by rw [i_lt] at z; rw [i_le] at c_91; omega))]; done)
                | (rw [if_neg (fun q => q.elim (fun z => c_78 z.2) (fun z => c_86 z.1))]; done)
                | (rw [if_neg (fun q => q.elim (fun z => c_78 z.2) (fun z => by rw [i_lt] at z; rw [i_le] at c_91; omega))]; done)
        · refine wh_iload (pc := 76) d_Md_pullOf_76 rfl ?_
          refine wh_if_gt (pc := 78) (tgt := 94) d_Md_pullOf_78 (by decide) (fun c_78 => ?_) (fun c_78 => ?_)
          · refine wh_iconst (pc := 94) (v := 1) d_Md_pullOf_94 (by decide) ?_
            refine wh_goto (pc := 95) (tgt := 99) d_Md_pullOf_95 (by decide) ?_
            refine wh_eq j_99 rfl ?_ rfl
            have e16 : gI h p (Int32.toNatClampNeg 16) = pageS h p 5 2 := rfl
            rw [e16] at *
            unfold helpF
            first
              | (rw [if_pos (Or.inl ⟨c_73, c_78⟩)]; done)
              | (rw [if_pos (Or.inr ⟨c_86, by rw [i_lt]; rw [i_le] at c_91; omega⟩)]; done)
              | (rw [if_neg (fun q => q.elim (fun z => c_73 z.1) (fun z => c_86 z.2.1))]; done)
              | (rw [if_neg (fun q => q.elim (fun z => c_73 z.1) (fun z => c_86 z.1))]; done)
              | (rw [if_neg (fun q => q.elim (fun z => c_73 z.1) (fun z => by rw [i_lt] at z; rw [i_le] at c_91; omega))]; done)
              | (rw [if_neg (fun q => q.elim (fun z => c_78 z.2) (fun z => c_86 z.1))]; done)
              | (rw [if_neg (fun q => q.elim (fun z => c_78 z.2) (fun z => by rw [i_lt] at z; rw [i_le] at c_91; omega))]; done)
          · refine wh_aload_n (pc := 81) d_Md_pullOf_81 rfl rfl ?_
            refine wh_bipush (pc := 82) (v := 16) d_Md_pullOf_82 (by decide) ?_
            refine wh_iald (pc := 84) d_Md_pullOf_84 hp (by first | exact in_nI (by omega) (by omega) | (simp only [a0, a5, a10, a19]; exact in_nI (by omega) (by omega)) | exact vp_in_iff.mpr (by decide)) ?_
            refine wh_iconst (pc := 85) (v := 2) d_Md_pullOf_85 (by decide) ?_
            refine wh_icmp_ne (pc := 86) (tgt := 98) d_Md_pullOf_86 (by decide) (fun c_86 => ?_) (fun c_86 => ?_)
            · refine wh_iconst (pc := 98) (v := 0) d_Md_pullOf_98 (by decide) ?_
              refine wh_eq j_99 rfl ?_ rfl
              have e16 : gI h p (Int32.toNatClampNeg 16) = pageS h p 5 2 := rfl
              rw [e16] at *
              unfold helpF
              first
                | (rw [if_pos (Or.inl ⟨c_73, c_78⟩)]; done)
                | (rw [if_pos (Or.inr ⟨c_86, by rw [i_lt]; rw [i_le] at c_91; omega⟩)]; done)
                | (rw [if_neg (fun q => q.elim (fun z => c_73 z.1) (fun z => c_86 z.2.1))]; done)
                | (rw [if_neg (fun q => q.elim (fun z => c_73 z.1) (fun z => c_86 z.1))]; done)
                | (rw [if_neg (fun q => q.elim (fun z => c_73 z.1) (fun z => by rw [i_lt] at z; rw [i_le] at c_91; omega))]; done)
                | (rw [if_neg (fun q => q.elim (fun z => c_78 z.2) (fun z => c_86 z.1))]; done)
                | (rw [if_neg (fun q => q.elim (fun z => c_78 z.2) (fun z => by rw [i_lt] at z; rw [i_le] at c_91; omega))]; done)
            · refine wh_iload (pc := 89) d_Md_pullOf_89 rfl ?_
              refine wh_if_ge (pc := 91) (tgt := 98) d_Md_pullOf_91 (by decide) (fun c_91 => ?_) (fun c_91 => ?_)
              · refine wh_iconst (pc := 98) (v := 0) d_Md_pullOf_98 (by decide) ?_
                refine wh_eq j_99 rfl ?_ rfl
                have e16 : gI h p (Int32.toNatClampNeg 16) = pageS h p 5 2 := rfl
                rw [e16] at *
                unfold helpF
                first
                  | (rw [if_pos (Or.inl ⟨c_73, c_78⟩)]; done)
                  | (rw [if_pos (Or.inr ⟨c_86, by rw [i_lt]; rw [i_le] at c_91; omega⟩)]; done)
                  | (rw [if_neg (fun q => q.elim (fun z => c_73 z.1) (fun z => c_86 z.2.1))]; done)
                  | (rw [if_neg (fun q => q.elim (fun z => c_73 z.1) (fun z => c_86 z.1))]; done)
                  | (rw [if_neg (fun q => q.elim (fun z => c_73 z.1) (fun z => by rw [i_lt] at z; rw [i_le] at c_91; omega))]; done)
                  | (rw [if_neg (fun q => q.elim (fun z => c_78 z.2) (fun z => c_86 z.1))]; done)
                  | (rw [if_neg (fun q => q.elim (fun z => c_78 z.2) (fun z => by rw [i_lt] at z; rw [i_le] at c_91; omega))]; done)
              · refine wh_iconst (pc := 94) (v := 1) d_Md_pullOf_94 (by decide) ?_
                refine wh_goto (pc := 95) (tgt := 99) d_Md_pullOf_95 (by decide) ?_
                refine wh_eq j_99 rfl ?_ rfl
                have e16 : gI h p (Int32.toNatClampNeg 16) = pageS h p 5 2 := rfl
                rw [e16] at *
                unfold helpF
                first
                  | (rw [if_pos (Or.inl ⟨c_73, c_78⟩)]; done)
                  | (rw [if_pos (Or.inr ⟨c_86, by rw [i_lt]; rw [i_le] at c_91; omega⟩)]; done)
                  | (rw [if_neg (fun q => q.elim (fun z => c_73 z.1) (fun z => c_86 z.2.1))]; done)
                  | (rw [if_neg (fun q => q.elim (fun z => c_73 z.1) (fun z => c_86 z.1))]; done)
                  | (rw [if_neg (fun q => q.elim (fun z => c_73 z.1) (fun z => by rw [i_lt] at z; rw [i_le] at c_91; omega))]; done)
                  | (rw [if_neg (fun q => q.elim (fun z => c_78 z.2) (fun z => c_86 z.1))]; done)
                  | (rw [if_neg (fun q => q.elim (fun z => c_78 z.2) (fun z => by rw [i_lt] at z; rw [i_le] at c_91; omega))]; done)
    · refine wh_aload_n (pc := 29) d_Md_pullOf_29 rfl rfl ?_
      refine gf_Md_13 (pc := 30) rfl d_Md_pullOf_30 ?_
      refine wh_iload_n (pc := 33) d_Md_pullOf_33 rfl rfl ?_
      refine wh_iald (pc := 34) d_Md_pullOf_34 rfl (by first | exact in_nI (by omega) (by omega) | (simp only [a0, a5, a10, a19]; exact in_nI (by omega) (by omega)) | exact vp_in_iff.mpr (by decide)) ?_
      refine wh_iconst (pc := 35) (v := 1) d_Md_pullOf_35 (by decide) ?_
      refine wh_icmp_ne (pc := 36) (tgt := 46) d_Md_pullOf_36 (by decide) (fun c_36 => ?_) (fun c_36 => ?_)
      · refine wh_aload_n (pc := 46) d_Md_pullOf_46 rfl rfl ?_
        refine gf_Md_13 (pc := 47) rfl d_Md_pullOf_47 ?_
        refine wh_iload_n (pc := 50) d_Md_pullOf_50 rfl rfl ?_
        refine wh_iald (pc := 51) d_Md_pullOf_51 rfl (by first | exact in_nI (by omega) (by omega) | (simp only [a0, a5, a10, a19]; exact in_nI (by omega) (by omega)) | exact vp_in_iff.mpr (by decide)) ?_
        refine wh_iconst (pc := 52) (v := 3) d_Md_pullOf_52 (by decide) ?_
        refine wh_icmp_ne (pc := 53) (tgt := 63) d_Md_pullOf_53 (by decide) (fun c_53 => ?_) (fun c_53 => ?_)
        · refine wh_iload (pc := 63) d_Md_pullOf_63 rfl ?_
          refine wh_eq j_65 rfl ?_ rfl
          simp only [a0, a10, a19, cl_nI (show k < 2 ^ 31 by omega), cl_nI (show j < 2 ^ 31 by omega), cl_nI (show 10 + j < 2 ^ 31 by omega), cl_nI (show 19 + k < 2 ^ 31 by omega), pa0 hk, pa1 hk, pa2 hk, pa3 hj, pa4 hj] at *
          unfold glowF
          first | (rw [if_pos c_36]; done) | (rw [if_neg c_36, if_pos c_53]; done) | (rw [if_neg c_36, if_neg c_53]; done)
        · refine wh_iload (pc := 56) d_Md_pullOf_56 rfl ?_
          refine wh_iconst (pc := 58) (v := 2) d_Md_pullOf_58 (by decide) ?_
          refine wh_iadd (pc := 59) d_Md_pullOf_59 ?_
          refine wh_goto (pc := 60) (tgt := 65) d_Md_pullOf_60 (by decide) ?_
          refine wh_eq j_65 rfl ?_ rfl
          simp only [a0, a10, a19, cl_nI (show k < 2 ^ 31 by omega), cl_nI (show j < 2 ^ 31 by omega), cl_nI (show 10 + j < 2 ^ 31 by omega), cl_nI (show 19 + k < 2 ^ 31 by omega), pa0 hk, pa1 hk, pa2 hk, pa3 hj, pa4 hj] at *
          unfold glowF
          first | (rw [if_pos c_36]; done) | (rw [if_neg c_36, if_pos c_53]; done) | (rw [if_neg c_36, if_neg c_53]; done)
      · refine wh_iload (pc := 39) d_Md_pullOf_39 rfl ?_
        refine wh_iconst (pc := 41) (v := 2) d_Md_pullOf_41 (by decide) ?_
        refine wh_idiv (pc := 42) d_Md_pullOf_42 (by decide) ?_
        refine wh_goto (pc := 43) (tgt := 65) d_Md_pullOf_43 (by decide) ?_
        refine wh_eq j_65 rfl ?_ rfl
        simp only [a0, a10, a19, cl_nI (show k < 2 ^ 31 by omega), cl_nI (show j < 2 ^ 31 by omega), cl_nI (show 10 + j < 2 ^ 31 by omega), cl_nI (show 19 + k < 2 ^ 31 by omega), pa0 hk, pa1 hk, pa2 hk, pa3 hj, pa4 hj] at *
        unfold glowF
        first | (rw [if_pos c_36]; done) | (rw [if_neg c_36, if_pos c_53]; done) | (rw [if_neg c_36, if_neg c_53]; done)
  · refine wh_iconst (pc := 12) (v := 0) d_Md_pullOf_12 (by decide) ?_
    refine wh_iret (pc := 13) d_Md_pullOf_13 rfl ?_
    refine ⟨rfl, ?_⟩
    rw [a0, cl_nI (show k < 2 ^ 31 by omega), pa1 hk] at c_9
    unfold pullF
    rw [if_pos c_9]
theorem m_most {l : Launch} {D : va_G} {base : Nat} {p : Nat} (hp0 : IsPage p) {h : Hp} {S : St} (hS : pageS h p = S) (hF : WFS S) {j : Nat} (hj : j < nM S) : SD l D base M_Md_strongest [.ref 42, .ref p, .int (nI j)] h (some (.int (mostF S j))) h := by
  refine SP.of [some (.ref 42), some (.ref p), some (.int (nI j)), none, none, none] (by decide) rfl (Nat.le_of_ble_eq_true rfl) ?_
  subst hS
  have hw5 := hF.1.1
  have hm6 := hF.2.1.1
  have hp := pg_sh hp0
  refine wh_iconst (pc := 0) (v := 0) d_Md_strongest_0 (by decide) ?_
  refine wh_istore_n (pc := 1) (ls2 := [_, _, _, _, _, _]) d_Md_strongest_1 rfl (by decide) rfl rfl ?_
  refine wh_iconst (pc := 2) (v := 0) d_Md_strongest_2 (by decide) ?_
  refine wh_istore (pc := 3) (ls2 := [_, _, _, _, _, _]) d_Md_strongest_3 (by decide) rfl rfl ?_
  refine wh_eq (wh_loop (nW (pageS h p)) (fun i => [some (.ref 42), some (.ref p), some (.int (nI j)), some (.int (mxN (fun k => pullF (pageS h p) k j) i)), some (.int (nI i)), none]) (fun i => h) (fun i => True) ?_ ?_ 0 (Nat.zero_le _) trivial) ?_ rfl ?_
  · intro _
    refine wh_iload (pc := 5) d_Md_strongest_5 rfl ?_
    refine wh_aload_n (pc := 7) d_Md_strongest_7 rfl rfl ?_
    refine gf_Md_66 (pc := 8) rfl d_Md_strongest_8 ?_
    refine wh_icmp_ge (pc := 11) (tgt := 43) d_Md_strongest_11 (by decide) (fun c_11 => ?_) (fun c_11 => absurd (by rw [pf_w hF]; exact nI_le (Nat.le_refl _) (by omega)) c_11)
    refine wh_iload_n (pc := 43) d_Md_strongest_43 rfl rfl ?_
    refine wh_iret (pc := 44) d_Md_strongest_44 rfl ?_
    exact ⟨rfl, rfl⟩
  · intro i hi _ ih
    refine wh_iload (pc := 5) d_Md_strongest_5 rfl ?_
    refine wh_aload_n (pc := 7) d_Md_strongest_7 rfl rfl ?_
    refine gf_Md_66 (pc := 8) rfl d_Md_strongest_8 ?_
    refine wh_icmp_ge (pc := 11) (tgt := 43) d_Md_strongest_11 (by decide) (fun c_11 => absurd c_11 (by rw [pf_w hF]; exact nI_ge hi (by omega))) (fun c_11 => ?_)
    refine wh_aload_n (pc := 14) d_Md_strongest_14 rfl rfl ?_
    refine wh_aload_n (pc := 15) d_Md_strongest_15 rfl rfl ?_
    refine wh_iload (pc := 16) d_Md_strongest_16 rfl ?_
    refine wh_iload_n (pc := 18) d_Md_strongest_18 rfl rfl ?_
    refine cv_Md_122_d (pc := 19) rfl d_Md_strongest_19 ⟨⟨by decide, by decide⟩, rfl, rfl⟩ (m_pull hp0 rfl hF hi hj) (Nat.le_of_ble_eq_true rfl) ?_
    refine wh_istore (pc := 22) (ls2 := [_, _, _, _, _, _]) d_Md_strongest_22 (by decide) rfl rfl ?_
    refine wh_iload (pc := 24) d_Md_strongest_24 rfl ?_
    refine wh_iload_n (pc := 26) d_Md_strongest_26 rfl rfl ?_
    refine wh_icmp_le (pc := 27) (tgt := 35) d_Md_strongest_27 (by decide) (fun c_27 => ?_) (fun c_27 => ?_)
    · refine wh_iload_n (pc := 35) d_Md_strongest_35 rfl rfl ?_
      refine wh_istore_n (pc := 36) (ls2 := [_, _, _, _, _, _]) d_Md_strongest_36 rfl (by decide) rfl rfl ?_
      refine wh_iinc (pc := 37) (ls2 := [_, _, _, _, _, _]) d_Md_strongest_37 rfl (nI_inc _) (by decide) rfl rfl ?_
      refine wh_goto (pc := 40) (tgt := 5) d_Md_strongest_40 (by decide) ?_
      refine wh_drop (i := 5) (ls2 := [_, _, _, _, _, _]) rfl ?_
      first | (refine wh_eq (ih trivial) ?_ rfl rfl; rw [mx_gt (f := fun k => pullF (pageS h p) k j) c_27]; done) | (refine wh_eq (ih trivial) ?_ rfl rfl; rw [mx_le (f := fun k => pullF (pageS h p) k j) c_27]; done)
    · refine wh_iload (pc := 30) d_Md_strongest_30 rfl ?_
      refine wh_goto (pc := 32) (tgt := 36) d_Md_strongest_32 (by decide) ?_
      refine wh_istore_n (pc := 36) (ls2 := [_, _, _, _, _, _]) d_Md_strongest_36 rfl (by decide) rfl rfl ?_
      refine wh_iinc (pc := 37) (ls2 := [_, _, _, _, _, _]) d_Md_strongest_37 rfl (nI_inc _) (by decide) rfl rfl ?_
      refine wh_goto (pc := 40) (tgt := 5) d_Md_strongest_40 (by decide) ?_
      refine wh_drop (i := 5) (ls2 := [_, _, _, _, _, _]) rfl ?_
      first | (refine wh_eq (ih trivial) ?_ rfl rfl; rw [mx_gt (f := fun k => pullF (pageS h p) k j) c_27]; done) | (refine wh_eq (ih trivial) ?_ rfl rfl; rw [mx_le (f := fun k => pullF (pageS h p) k j) c_27]; done)
  · rfl
  · rfl

theorem m_lay {l : Launch} {D : va_G} {base : Nat} {p : Nat} (hp0 : IsPage p) {h : Hp} {S : St} (hS : pageS h p = S) (hF : WFS S) : SD l D base M_Md_layOwed [.ref 42, .ref p] h (some (.int (allF S))) (layH h p) := by
  refine SP.of [some (.ref 42), some (.ref p), none, none, none, none] (by decide) rfl (Nat.le_of_ble_eq_true rfl) ?_
  subst hS
  have hw5 := hF.1.1
  have hm6 := hF.2.1.1
  have hp := pg_sh hp0
  refine wh_iconst (pc := 0) (v := 0) d_Md_layOwed_0 (by decide) ?_
  refine wh_istore_n (pc := 1) (ls2 := [_, _, _, _, _, _]) d_Md_layOwed_1 rfl (by decide) rfl rfl ?_
  refine wh_eq (wh_loop (nW (pageS h p)) (fun i => [some (.ref 42), some (.ref p), some (.int (nI i)), none, none, none]) (fun i => fillA h 57 (fun k => dueN (pageS h p) k 0) i) (fun i => True) ?_ ?_ 0 (Nat.zero_le _) trivial) rfl rfl (fill_0 _ _ _).symm
  · intro _
    refine wh_iload_n (pc := 2) d_Md_layOwed_2 rfl rfl ?_
    refine wh_aload_n (pc := 3) d_Md_layOwed_3 rfl rfl ?_
    refine gf_Md_66 (pc := 4) rfl d_Md_layOwed_4 ?_
    refine wh_icmp_ge (pc := 7) (tgt := 23) d_Md_layOwed_7 (by decide) (fun c_7 => ?_) (fun c_7 => absurd (by rw [gI_fillN (by omega), pf_w hF]; exact nI_le (Nat.le_refl _) (by omega)) c_7)
    refine wh_iconst (pc := 23) (v := 0) d_Md_layOwed_23 (by decide) ?_
    refine wh_istore_n (pc := 24) (ls2 := [_, _, _, _, _, _]) d_Md_layOwed_24 rfl (by decide) rfl rfl ?_
    refine wh_eq (wh_loop (nM (pageS h p)) (fun i => [some (.ref 42), some (.ref p), some (.int (nI i)), none, none, none]) (fun i => fillA (fillA h 57 (fun k => dueN (pageS h p) k i) (nW (pageS h p))) 56 (drawsF (pageS h p)) i) (fun i => True) ?_ ?_ 0 (Nat.zero_le _) trivial) rfl rfl (fill_0 _ _ _).symm
    · intro _
      refine wh_iload_n (pc := 25) d_Md_layOwed_25 rfl rfl ?_
      refine wh_aload_n (pc := 26) d_Md_layOwed_26 rfl rfl ?_
      refine gf_Md_73 (pc := 27) rfl d_Md_layOwed_27 ?_
      refine wh_icmp_ge (pc := 30) (tgt := 195) d_Md_layOwed_30 (by decide) (fun c_30 => ?_) (fun c_30 => absurd (by rw [gI_fillN (by omega), gI_fillN (by omega), pf_m hF]; exact nI_le (Nat.le_refl _) (by omega)) c_30)
      refine wh_iconst (pc := 195) (v := 0) d_Md_layOwed_195 (by decide) ?_
      refine wh_istore_n (pc := 196) (ls2 := [_, _, _, _, _, _]) d_Md_layOwed_196 rfl (by decide) rfl rfl ?_
      refine wh_iconst (pc := 197) (v := 0) d_Md_layOwed_197 (by decide) ?_
      refine wh_istore_n (pc := 198) (ls2 := [_, _, _, _, _, _]) d_Md_layOwed_198 rfl (by decide) rfl rfl ?_
      refine wh_eq (wh_loop (nW (pageS h p)) (fun i => [some (.ref 42), some (.ref p), some (.int (smN (owedF (pageS h p)) i)), some (.int (nI i)), none, none]) (fun i => fillA (fillA (fillA h 57 (fun k => dueN (pageS h p) k (nM (pageS h p))) (nW (pageS h p))) 56 (drawsF (pageS h p)) (nM (pageS h p))) 57 (owedF (pageS h p)) i) (fun i => True) ?_ ?_ 0 (Nat.zero_le _) trivial) rfl rfl (fill_0 _ _ _).symm
      · intro _
        refine wh_iload_n (pc := 199) d_Md_layOwed_199 rfl rfl ?_
        refine wh_aload_n (pc := 200) d_Md_layOwed_200 rfl rfl ?_
        refine gf_Md_66 (pc := 201) rfl d_Md_layOwed_201 ?_
        refine wh_icmp_ge (pc := 204) (tgt := 255) d_Md_layOwed_204 (by decide) (fun c_204 => ?_) (fun c_204 => absurd (by rw [gI_fillN (by omega), gI_fillN (by omega), gI_fillN (by omega), pf_w hF]; exact nI_le (Nat.le_refl _) (by omega)) c_204)
        refine wh_iload_n (pc := 255) d_Md_layOwed_255 rfl rfl ?_
        refine wh_iret (pc := 256) d_Md_layOwed_256 rfl ?_
        refine ⟨?_, rfl⟩
        rw [fill_comm (by decide), fill_fill, fill_comm (by decide)]
        rfl
      · intro i hi _ ih
        have e44 : gI (fillA (fillA (fillA h 57 (fun k => dueN (pageS h p) k (nM (pageS h p))) (nW (pageS h p))) 56 (drawsF (pageS h p)) (nM (pageS h p))) 57 (owedF (pageS h p)) i) 44 i = (pageS h p) 2 i := by rw [gI_fillN (by omega), gI_fillN (by omega), gI_fillN (by omega), pa2 hi]
        have e57 : gI (fillA (fillA (fillA h 57 (fun k => dueN (pageS h p) k (nM (pageS h p))) (nW (pageS h p))) 56 (drawsF (pageS h p)) (nM (pageS h p))) 57 (owedF (pageS h p)) i) 57 i = dueN (pageS h p) i (nM (pageS h p)) := by rw [gI_fillO (Nat.le_refl _), gI_fillN (by omega), gI_fillY hi]
        refine wh_iload_n (pc := 199) d_Md_layOwed_199 rfl rfl ?_
        refine wh_aload_n (pc := 200) d_Md_layOwed_200 rfl rfl ?_
        refine gf_Md_66 (pc := 201) rfl d_Md_layOwed_201 ?_
        refine wh_icmp_ge (pc := 204) (tgt := 255) d_Md_layOwed_204 (by decide) (fun c_204 => absurd c_204 (by rw [gI_fillN (by omega), gI_fillN (by omega), gI_fillN (by omega), pf_w hF]; exact nI_ge hi (by omega))) (fun c_204 => ?_)
        refine wh_aload_n (pc := 207) d_Md_layOwed_207 rfl rfl ?_
        refine gf_Md_53 (pc := 208) rfl d_Md_layOwed_208 ?_
        refine wh_iload_n (pc := 211) d_Md_layOwed_211 rfl rfl ?_
        refine wh_cut (pcj := 239) (lsj := [some (.ref 42), some (.ref p), some (.int (smN (owedF (pageS h p)) i)), some (.int (nI i)), none, none]) (stj := [.int (owedF (pageS h p) i), .int (nI i), .ref 57]) (hj := fillA (fillA (fillA h 57 (fun k => dueN (pageS h p) k (nM (pageS h p))) (nW (pageS h p))) 56 (drawsF (pageS h p)) (nM (pageS h p))) 57 (owedF (pageS h p)) i) ?_ (fun j_239 => ?_)
        · refine wh_iast (pc := 239) d_Md_layOwed_239 rfl (by first | exact in_nI (by omega) (by omega) | (simp only [a0, a5, a10, a19]; exact in_nI (by omega) (by omega)) | exact vp_in_iff.mpr (by decide)) ?_
          refine wh_iload_n (pc := 240) d_Md_layOwed_240 rfl rfl ?_
          refine wh_aload_n (pc := 241) d_Md_layOwed_241 rfl rfl ?_
          refine gf_Md_53 (pc := 242) rfl d_Md_layOwed_242 ?_
          refine wh_iload_n (pc := 245) d_Md_layOwed_245 rfl rfl ?_
          refine wh_iald (pc := 246) d_Md_layOwed_246 rfl (by first | exact in_nI (by omega) (by omega) | (simp only [a0, a5, a10, a19]; exact in_nI (by omega) (by omega)) | exact vp_in_iff.mpr (by decide)) ?_
          refine wh_iadd (pc := 247) d_Md_layOwed_247 ?_
          refine wh_istore_n (pc := 248) (ls2 := [_, _, _, _, _, _]) d_Md_layOwed_248 rfl (by decide) rfl rfl ?_
          refine wh_iinc (pc := 249) (ls2 := [_, _, _, _, _, _]) d_Md_layOwed_249 rfl (nI_inc _) (by decide) rfl rfl ?_
          refine wh_goto (pc := 252) (tgt := 199) d_Md_layOwed_252 (by decide) ?_
          simp only [cl_nI (show i < 2 ^ 31 by omega), gI_sS]
          exact wh_eq (ih trivial) rfl rfl (fill_s _ _ _ _ rfl)
        · refine wh_aload_n (pc := 212) d_Md_layOwed_212 rfl rfl ?_
          refine gf_Md_13 (pc := 213) rfl d_Md_layOwed_213 ?_
          refine wh_iload_n (pc := 216) d_Md_layOwed_216 rfl rfl ?_
          refine wh_iald (pc := 217) d_Md_layOwed_217 rfl (by first | exact in_nI (by omega) (by omega) | (simp only [a0, a5, a10, a19]; exact in_nI (by omega) (by omega)) | exact vp_in_iff.mpr (by decide)) ?_
          refine wh_iconst (pc := 218) (v := 2) d_Md_layOwed_218 (by decide) ?_
          refine wh_icmp_ne (pc := 219) (tgt := 233) d_Md_layOwed_219 (by decide) (fun c_219 => ?_) (fun c_219 => ?_)
          · refine wh_aload_n (pc := 233) d_Md_layOwed_233 rfl rfl ?_
            refine gf_Md_53 (pc := 234) rfl d_Md_layOwed_234 ?_
            refine wh_iload_n (pc := 237) d_Md_layOwed_237 rfl rfl ?_
            refine wh_iald (pc := 238) d_Md_layOwed_238 rfl (by first | exact in_nI (by omega) (by omega) | (simp only [a0, a5, a10, a19]; exact in_nI (by omega) (by omega)) | exact vp_in_iff.mpr (by decide)) ?_
            refine wh_eq j_239 rfl ?_ rfl
            simp only [cl_nI (show i < 2 ^ 31 by omega)] at *
            rw [e44] at c_219
            rw [e57]
            unfold owedF
            first | (rw [if_pos c_219]; done) | (rw [if_neg c_219]; done)
          · refine wh_aload_n (pc := 222) d_Md_layOwed_222 rfl rfl ?_
            refine gf_Md_53 (pc := 223) rfl d_Md_layOwed_223 ?_
            refine wh_iload_n (pc := 226) d_Md_layOwed_226 rfl rfl ?_
            refine wh_iald (pc := 227) d_Md_layOwed_227 rfl (by first | exact in_nI (by omega) (by omega) | (simp only [a0, a5, a10, a19]; exact in_nI (by omega) (by omega)) | exact vp_in_iff.mpr (by decide)) ?_
            refine wh_iconst (pc := 228) (v := 2) d_Md_layOwed_228 (by decide) ?_
            refine wh_idiv (pc := 229) d_Md_layOwed_229 (by decide) ?_
            refine wh_goto (pc := 230) (tgt := 239) d_Md_layOwed_230 (by decide) ?_
            refine wh_eq j_239 rfl ?_ rfl
            simp only [cl_nI (show i < 2 ^ 31 by omega)] at *
            rw [e44] at c_219
            rw [e57]
            unfold owedF
            first | (rw [if_pos c_219]; done) | (rw [if_neg c_219]; done)
    · intro i hi _ ih
      refine wh_iload_n (pc := 25) d_Md_layOwed_25 rfl rfl ?_
      refine wh_aload_n (pc := 26) d_Md_layOwed_26 rfl rfl ?_
      refine gf_Md_73 (pc := 27) rfl d_Md_layOwed_27 ?_
      refine wh_icmp_ge (pc := 30) (tgt := 195) d_Md_layOwed_30 (by decide) (fun c_30 => absurd c_30 (by rw [gI_fillN (by omega), gI_fillN (by omega), pf_m hF]; exact nI_ge hi (by omega))) (fun c_30 => ?_)
      refine wh_aload_n (pc := 33) d_Md_layOwed_33 rfl rfl ?_
      refine wh_aload_n (pc := 34) d_Md_layOwed_34 rfl rfl ?_
      refine wh_iload_n (pc := 35) d_Md_layOwed_35 rfl rfl ?_
      refine cv_Md_126_d (pc := 36) rfl d_Md_layOwed_36 ⟨⟨by decide, by decide⟩, rfl, rfl⟩ (m_most hp0 (show pageS (fillA (fillA h 57 (fun k => dueN (pageS h p) k i) (nW (pageS h p))) 56 (drawsF (pageS h p)) i) p = (pageS h p) by rw [page_fill hp0 (by omega), page_fill hp0 (by omega)]) hF hi) (Nat.le_of_ble_eq_true rfl) ?_
      refine wh_istore_n (pc := 39) (ls2 := [_, _, _, _, _, _]) d_Md_layOwed_39 rfl (by decide) rfl rfl ?_
      refine wh_aload_n (pc := 40) d_Md_layOwed_40 rfl rfl ?_
      refine gf_Md_50 (pc := 41) rfl d_Md_layOwed_41 ?_
      refine wh_iload_n (pc := 44) d_Md_layOwed_44 rfl rfl ?_
      refine wh_iconst (pc := 45) (v := 0) d_Md_layOwed_45 (by decide) ?_
      refine wh_iast (pc := 46) d_Md_layOwed_46 rfl (by first | exact in_nI (by omega) (by omega) | (simp only [a0, a5, a10, a19]; exact in_nI (by omega) (by omega)) | exact vp_in_iff.mpr (by decide)) ?_
      refine wh_iconst (pc := 47) (v := 0) d_Md_layOwed_47 (by decide) ?_
      refine wh_istore (pc := 48) (ls2 := [_, _, _, _, _, _]) d_Md_layOwed_48 (by decide) rfl rfl ?_
      refine wh_eq (wh_loop (nW (pageS h p)) (fun q => [some (.ref 42), some (.ref p), some (.int (nI i)), some (.int (mostF (pageS h p) i)), some (.int (nI q)), none]) (fun q => sI (fillA (fillA h 57 (fun k => dueN (pageS h p) k i) (nW (pageS h p))) 56 (drawsF (pageS h p)) i) 56 i (orN (fun k => decide (0 < mostF (pageS h p) i ∧ pullF (pageS h p) k i = mostF (pageS h p) i)) q)) (fun _ => True) ?_ ?_ 0 (Nat.zero_le _) trivial) ?_ rfl ?_
      · intro _
        refine wh_iload (pc := 50) d_Md_layOwed_50 rfl ?_
        refine wh_aload_n (pc := 52) d_Md_layOwed_52 rfl rfl ?_
        refine gf_Md_66 (pc := 53) rfl d_Md_layOwed_53 ?_
        refine wh_icmp_ge (pc := 56) (tgt := 98) d_Md_layOwed_56 (by decide) (fun c_56 => ?_) (fun c_56 => absurd (by rw [gI_sN (by omega), gI_fillN (by omega), gI_fillN (by omega), pf_w hF]; exact nI_le (Nat.le_refl _) (by omega)) c_56)
        refine wh_drop (i := 3) (ls2 := [_, _, _, _, _, _]) rfl ?_
        refine wh_drop (i := 4) (ls2 := [_, _, _, _, _, _]) rfl ?_
        refine wh_eq ?_ rfl rfl (fill_s (fillA h 57 (fun k => dueN (pageS h p) k i) (nW (pageS h p))) 56 (drawsF (pageS h p)) i rfl)
        have e45 : gI (fillA (fillA h 57 (fun k => dueN (pageS h p) k i) (nW (pageS h p))) 56 (drawsF (pageS h p)) (i + 1)) 45 i = (pageS h p) 4 i := by rw [gI_fillN (by omega), gI_fillN (by omega), pa4 hi]
        refine wh_cut (pcj := 129) (lsj := [some (.ref 42), some (.ref p), some (.int (nI i)), none, none, none]) (stj := [.int (taxF ((pageS h p) 4 i))]) (hj := fillA (fillA h 57 (fun k => dueN (pageS h p) k i) (nW (pageS h p))) 56 (drawsF (pageS h p)) (i + 1)) ?_ (fun j_129 => ?_)
        · refine wh_istore (pc := 129) (ls2 := [_, _, _, _, _, _]) d_Md_layOwed_129 (by decide) rfl rfl ?_
          refine wh_iconst (pc := 131) (v := 0) d_Md_layOwed_131 (by decide) ?_
          refine wh_istore (pc := 132) (ls2 := [_, _, _, _, _, _]) d_Md_layOwed_132 (by decide) rfl rfl ?_
          refine wh_eq (wh_loop (nW (pageS h p)) (fun q => [some (.ref 42), some (.ref p), some (.int (nI i)), none, some (.int (taxF ((pageS h p) 4 i))), some (.int (nI q))]) (fun q => fillA (fillA (fillA h 57 (fun k => dueN (pageS h p) k i) (nW (pageS h p))) 56 (drawsF (pageS h p)) (i + 1)) 57 (fun k => dueN (pageS h p) k (i + 1)) q) (fun _ => True) ?_ ?_ 0 (Nat.zero_le _) trivial) ?_ rfl ?_
          · intro _
            refine wh_iload (pc := 134) d_Md_layOwed_134 rfl ?_
            refine wh_aload_n (pc := 136) d_Md_layOwed_136 rfl rfl ?_
            refine gf_Md_66 (pc := 137) rfl d_Md_layOwed_137 ?_
            refine wh_icmp_ge (pc := 140) (tgt := 189) d_Md_layOwed_140 (by decide) (fun c_140 => ?_) (fun c_140 => absurd (by rw [gI_fillN (by omega), gI_fillN (by omega), gI_fillN (by omega), pf_w hF]; exact nI_le (Nat.le_refl _) (by omega)) c_140)
            refine wh_iinc (pc := 189) (ls2 := [_, _, _, _, _, _]) d_Md_layOwed_189 rfl (nI_inc _) (by decide) rfl rfl ?_
            refine wh_goto (pc := 192) (tgt := 25) d_Md_layOwed_192 (by decide) ?_
            refine wh_drop (i := 4) (ls2 := [_, _, _, _, _, _]) rfl ?_
            refine wh_drop (i := 5) (ls2 := [_, _, _, _, _, _]) rfl ?_
            refine wh_eq (ih trivial) rfl rfl ?_
            rw [fill_comm (by decide), fill_fill]
          · intro q hq _ ih2
            have e56 : gI (fillA (fillA (fillA h 57 (fun k => dueN (pageS h p) k i) (nW (pageS h p))) 56 (drawsF (pageS h p)) (i + 1)) 57 (fun k => dueN (pageS h p) k (i + 1)) q) 56 i = drawsF (pageS h p) i := by rw [gI_fillN (by omega), gI_fillY (by omega)]
            have e57 : gI (fillA (fillA (fillA h 57 (fun k => dueN (pageS h p) k i) (nW (pageS h p))) 56 (drawsF (pageS h p)) (i + 1)) 57 (fun k => dueN (pageS h p) k (i + 1)) q) 57 q = dueN (pageS h p) q i := by rw [gI_fillO (Nat.le_refl _), gI_fillN (by omega), gI_fillY hq]
            obtain ⟨en, hen, ee⟩ := draws_64 hw5 i
            have mb : manyN (drawsF (pageS h p) i) 6 = bitC (drawsF (pageS h p) i) := by rw [ee]; exact many_bit en hen
            refine wh_iload (pc := 134) d_Md_layOwed_134 rfl ?_
            refine wh_aload_n (pc := 136) d_Md_layOwed_136 rfl rfl ?_
            refine gf_Md_66 (pc := 137) rfl d_Md_layOwed_137 ?_
            refine wh_icmp_ge (pc := 140) (tgt := 189) d_Md_layOwed_140 (by decide) (fun c_140 => absurd c_140 (by rw [gI_fillN (by omega), gI_fillN (by omega), gI_fillN (by omega), pf_w hF]; exact nI_ge hq (by omega))) (fun c_140 => ?_)
            refine wh_aload_n (pc := 143) d_Md_layOwed_143 rfl rfl ?_
            refine gf_Md_53 (pc := 144) rfl d_Md_layOwed_144 ?_
            refine wh_iload (pc := 147) d_Md_layOwed_147 rfl ?_
            refine wh_dup2 (pc := 149) d_Md_layOwed_149 rfl rfl ?_
            refine wh_iald (pc := 150) d_Md_layOwed_150 rfl (by first | exact in_nI (by omega) (by omega) | (simp only [a0, a5, a10, a19]; exact in_nI (by omega) (by omega)) | exact vp_in_iff.mpr (by decide)) ?_
            refine wh_cut (pcj := 181) (lsj := [some (.ref 42), some (.ref p), some (.int (nI i)), none, some (.int (taxF ((pageS h p) 4 i))), some (.int (nI q))]) (stj := [.int (if hasB (drawsF (pageS h p) i) q then taxF ((pageS h p) 4 i) / bitC (drawsF (pageS h p) i) else 0), .int (dueN (pageS h p) q i), .int (nI q), .ref 57]) (hj := fillA (fillA (fillA h 57 (fun k => dueN (pageS h p) k i) (nW (pageS h p))) 56 (drawsF (pageS h p)) (i + 1)) 57 (fun k => dueN (pageS h p) k (i + 1)) q) ?_ (fun j_181 => ?_)
            · refine wh_iadd (pc := 181) d_Md_layOwed_181 ?_
              refine wh_iast (pc := 182) d_Md_layOwed_182 rfl (by first | exact in_nI (by omega) (by omega) | (simp only [a0, a5, a10, a19]; exact in_nI (by omega) (by omega)) | exact vp_in_iff.mpr (by decide)) ?_
              refine wh_iinc (pc := 183) (ls2 := [_, _, _, _, _, _]) d_Md_layOwed_183 rfl (nI_inc _) (by decide) rfl rfl ?_
              refine wh_goto (pc := 186) (tgt := 134) d_Md_layOwed_186 (by decide) ?_
              refine wh_eq (ih2 trivial) rfl rfl ?_
              rw [cl_nI (show q < 2 ^ 31 by omega)]
              refine fill_s _ _ _ _ ?_
              show _ = if hasB (drawsF (pageS h p) i) q then dueN (pageS h p) q i + taxF ((pageS h p) 4 i) / bitC (drawsF (pageS h p) i) else dueN (pageS h p) q i
              cases hasB (drawsF (pageS h p) i) q
              · exact Int32.add_zero _
              · rfl
            · refine wh_aload_n (pc := 151) d_Md_layOwed_151 rfl rfl ?_
              refine gf_Md_50 (pc := 152) rfl d_Md_layOwed_152 ?_
              refine wh_iload_n (pc := 155) d_Md_layOwed_155 rfl rfl ?_
              refine wh_iald (pc := 156) d_Md_layOwed_156 rfl (by first | exact in_nI (by omega) (by omega) | (simp only [a0, a5, a10, a19]; exact in_nI (by omega) (by omega)) | exact vp_in_iff.mpr (by decide)) ?_
              refine wh_iload (pc := 157) d_Md_layOwed_157 rfl ?_
              refine cs_Md_130_d (pc := 159) rfl d_Md_layOwed_159 ⟨⟨by decide, by decide⟩, rfl, rfl⟩ (m_has) (Nat.le_of_ble_eq_true rfl) ?_
              refine wh_if_eq (pc := 162) (tgt := 180) d_Md_layOwed_162 (by decide) (fun c_162 => ?_) (fun c_162 => ?_)
              · refine wh_iconst (pc := 180) (v := 0) d_Md_layOwed_180 (by decide) ?_
                refine wh_eq j_181 rfl ?_ rfl
                simp only [cl_nI (show i < 2 ^ 31 by omega), cl_nI (show q < 2 ^ 31 by omega), e56, e57] at *
                rw [mb] at *
                first
                  | (have hc : hasB (drawsF (pageS h p) i) q = true := by cases z : hasB (drawsF (pageS h p) i) q; rw [z] at c_162; exact absurd rfl c_162; rfl
                     rw [if_pos hc]; done)
                  | (have hc : hasB (drawsF (pageS h p) i) q = false := by cases z : hasB (drawsF (pageS h p) i) q; rfl; rw [z] at c_162; exact absurd c_162 (by decide)
                     rw [hc]; rfl)
              · refine wh_iload (pc := 165) d_Md_layOwed_165 rfl ?_
                refine wh_aload_n (pc := 167) d_Md_layOwed_167 rfl rfl ?_
                refine gf_Md_50 (pc := 168) rfl d_Md_layOwed_168 ?_
                refine wh_iload_n (pc := 171) d_Md_layOwed_171 rfl rfl ?_
                refine wh_iald (pc := 172) d_Md_layOwed_172 rfl (by first | exact in_nI (by omega) (by omega) | (simp only [a0, a5, a10, a19]; exact in_nI (by omega) (by omega)) | exact vp_in_iff.mpr (by decide)) ?_
                refine cs_Md_134_d (pc := 173) rfl d_Md_layOwed_173 ⟨⟨by decide, by decide⟩, rfl, rfl⟩ (m_many) (Nat.le_of_ble_eq_true rfl) ?_
                refine wh_idiv (pc := 176) d_Md_layOwed_176 (by simp only [cl_nI (show i < 2 ^ 31 by omega), e56] at *; rw [mb, ee]; exact has_many en hen q (by omega) (by cases z : hasB (nI en) q; rw [ee, z] at c_162; exact absurd rfl c_162; rfl)) ?_
                refine wh_goto (pc := 177) (tgt := 181) d_Md_layOwed_177 (by decide) ?_
                refine wh_eq j_181 rfl ?_ rfl
                simp only [cl_nI (show i < 2 ^ 31 by omega), cl_nI (show q < 2 ^ 31 by omega), e56, e57] at *
                rw [mb] at *
                first
                  | (have hc : hasB (drawsF (pageS h p) i) q = true := by cases z : hasB (drawsF (pageS h p) i) q; rw [z] at c_162; exact absurd rfl c_162; rfl
                     rw [if_pos hc]; done)
                  | (have hc : hasB (drawsF (pageS h p) i) q = false := by cases z : hasB (drawsF (pageS h p) i) q; rfl; rw [z] at c_162; exact absurd c_162 (by decide)
                     rw [hc]; rfl)
          · rfl
          · exact (fill_0 _ _ _).symm
        · refine wh_aload_n (pc := 98) d_Md_layOwed_98 rfl rfl ?_
          refine gf_Md_16 (pc := 99) rfl d_Md_layOwed_99 ?_
          refine wh_iload_n (pc := 102) d_Md_layOwed_102 rfl rfl ?_
          refine wh_iald (pc := 103) d_Md_layOwed_103 rfl (by first | exact in_nI (by omega) (by omega) | (simp only [a0, a5, a10, a19]; exact in_nI (by omega) (by omega)) | exact vp_in_iff.mpr (by decide)) ?_
          refine wh_iconst (pc := 104) (v := 1) d_Md_layOwed_104 (by decide) ?_
          refine wh_icmp_ne (pc := 105) (tgt := 113) d_Md_layOwed_105 (by decide) (fun c_105 => ?_) (fun c_105 => ?_)
          · refine wh_aload_n (pc := 113) d_Md_layOwed_113 rfl rfl ?_
            refine gf_Md_16 (pc := 114) rfl d_Md_layOwed_114 ?_
            refine wh_iload_n (pc := 117) d_Md_layOwed_117 rfl rfl ?_
            refine wh_iald (pc := 118) d_Md_layOwed_118 rfl (by first | exact in_nI (by omega) (by omega) | (simp only [a0, a5, a10, a19]; exact in_nI (by omega) (by omega)) | exact vp_in_iff.mpr (by decide)) ?_
            refine wh_iconst (pc := 119) (v := 2) d_Md_layOwed_119 (by decide) ?_
            refine wh_icmp_ne (pc := 120) (tgt := 127) d_Md_layOwed_120 (by decide) (fun c_120 => ?_) (fun c_120 => ?_)
            · refine wh_bipush (pc := 127) (v := 6) d_Md_layOwed_127 (by decide) ?_
              refine wh_eq j_129 rfl ?_ rfl
              simp only [cl_nI (show i < 2 ^ 31 by omega), e45] at *
              rw [← tax_swap]
              first | (rw [if_pos c_105]; done) | (rw [if_neg c_105, if_pos c_120]; done) | (rw [if_neg c_105, if_neg c_120]; done)
            · refine wh_iconst (pc := 123) (v := 0) d_Md_layOwed_123 (by decide) ?_
              refine wh_goto (pc := 124) (tgt := 129) d_Md_layOwed_124 (by decide) ?_
              refine wh_eq j_129 rfl ?_ rfl
              simp only [cl_nI (show i < 2 ^ 31 by omega), e45] at *
              rw [← tax_swap]
              first | (rw [if_pos c_105]; done) | (rw [if_neg c_105, if_pos c_120]; done) | (rw [if_neg c_105, if_neg c_120]; done)
          · refine wh_bipush (pc := 108) (v := 18) d_Md_layOwed_108 (by decide) ?_
            refine wh_goto (pc := 110) (tgt := 129) d_Md_layOwed_110 (by decide) ?_
            refine wh_eq j_129 rfl ?_ rfl
            simp only [cl_nI (show i < 2 ^ 31 by omega), e45] at *
            rw [← tax_swap]
            first | (rw [if_pos c_105]; done) | (rw [if_neg c_105, if_pos c_120]; done) | (rw [if_neg c_105, if_neg c_120]; done)
      · intro q hq _ ih1
        refine wh_iload (pc := 50) d_Md_layOwed_50 rfl ?_
        refine wh_aload_n (pc := 52) d_Md_layOwed_52 rfl rfl ?_
        refine gf_Md_66 (pc := 53) rfl d_Md_layOwed_53 ?_
        refine wh_icmp_ge (pc := 56) (tgt := 98) d_Md_layOwed_56 (by decide) (fun c_56 => absurd c_56 (by rw [gI_sN (by omega), gI_fillN (by omega), gI_fillN (by omega), pf_w hF]; exact nI_ge hq (by omega))) (fun c_56 => ?_)
        refine wh_aload_n (pc := 59) d_Md_layOwed_59 rfl rfl ?_
        refine gf_Md_50 (pc := 60) rfl d_Md_layOwed_60 ?_
        refine wh_iload_n (pc := 63) d_Md_layOwed_63 rfl rfl ?_
        refine wh_dup2 (pc := 64) d_Md_layOwed_64 rfl rfl ?_
        refine wh_iald (pc := 65) d_Md_layOwed_65 rfl (by first | exact in_nI (by omega) (by omega) | (simp only [a0, a5, a10, a19]; exact in_nI (by omega) (by omega)) | exact vp_in_iff.mpr (by decide)) ?_
        refine wh_cut (pcj := 90) (lsj := [some (.ref 42), some (.ref p), some (.int (nI i)), some (.int (mostF (pageS h p) i)), some (.int (nI q)), none]) (stj := [.int (if (fun k => decide (0 < mostF (pageS h p) i ∧ pullF (pageS h p) k i = mostF (pageS h p) i)) q then 1 <<< (nI q &&& 31) else 0), .int (orN (fun k => decide (0 < mostF (pageS h p) i ∧ pullF (pageS h p) k i = mostF (pageS h p) i)) q), .int (nI i), .ref 56]) (hj := sI (fillA (fillA h 57 (fun k => dueN (pageS h p) k i) (nW (pageS h p))) 56 (drawsF (pageS h p)) i) 56 i (orN (fun k => decide (0 < mostF (pageS h p) i ∧ pullF (pageS h p) k i = mostF (pageS h p) i)) q)) ?_ (fun j_90 => ?_)
        · refine wh_ior (pc := 90) d_Md_layOwed_90 ?_
          refine wh_iast (pc := 91) d_Md_layOwed_91 rfl (by first | exact in_nI (by omega) (by omega) | (simp only [a0, a5, a10, a19]; exact in_nI (by omega) (by omega)) | exact vp_in_iff.mpr (by decide)) ?_
          refine wh_iinc (pc := 92) (ls2 := [_, _, _, _, _, _]) d_Md_layOwed_92 rfl (nI_inc _) (by decide) rfl rfl ?_
          refine wh_goto (pc := 95) (tgt := 50) d_Md_layOwed_95 (by decide) ?_
          refine wh_eq (ih1 trivial) rfl rfl ?_
          rw [cl_nI (show i < 2 ^ 31 by omega), sI_sI]
          congr 1
          show _ = if (fun k => decide (0 < mostF (pageS h p) i ∧ pullF (pageS h p) k i = mostF (pageS h p) i)) q then orN (fun k => decide (0 < mostF (pageS h p) i ∧ pullF (pageS h p) k i = mostF (pageS h p) i)) q ||| (1 <<< (nI q &&& 31)) else orN (fun k => decide (0 < mostF (pageS h p) i ∧ pullF (pageS h p) k i = mostF (pageS h p) i)) q
          cases (fun k => decide (0 < mostF (pageS h p) i ∧ pullF (pageS h p) k i = mostF (pageS h p) i)) q
          · exact Int32.or_zero
          · rfl
        · refine wh_iload_n (pc := 66) d_Md_layOwed_66 rfl rfl ?_
          refine wh_if_le (pc := 67) (tgt := 89) d_Md_layOwed_67 (by decide) (fun c_67 => ?_) (fun c_67 => ?_)
          · refine wh_iconst (pc := 89) (v := 0) d_Md_layOwed_89 (by decide) ?_
            refine wh_eq j_90 rfl ?_ rfl
            rw [cl_nI (show i < 2 ^ 31 by omega), gI_sS]
            first
              | (have hc : (fun k => decide (0 < mostF (pageS h p) i ∧ pullF (pageS h p) k i = mostF (pageS h p) i)) q = true := by simp only [decide_eq_true_eq]; exact ⟨by rw [i_lt]; rw [i_le] at c_67; rw [i_0] at *; omega, c_79⟩
                 rw [if_pos hc]; done)
              | (have hc : (fun k => decide (0 < mostF (pageS h p) i ∧ pullF (pageS h p) k i = mostF (pageS h p) i)) q = false := by simp only [decide_eq_false_iff_not]; exact fun z => c_79 z.2
                 rw [hc]; rfl)
              | (have hc : (fun k => decide (0 < mostF (pageS h p) i ∧ pullF (pageS h p) k i = mostF (pageS h p) i)) q = false := by simp only [decide_eq_false_iff_not]; exact fun z => by rw [i_lt] at z; rw [i_le] at c_67; omega
                 rw [hc]; rfl)
          · refine wh_aload_n (pc := 70) d_Md_layOwed_70 rfl rfl ?_
            refine wh_aload_n (pc := 71) d_Md_layOwed_71 rfl rfl ?_
            refine wh_iload (pc := 72) d_Md_layOwed_72 rfl ?_
            refine wh_iload_n (pc := 74) d_Md_layOwed_74 rfl rfl ?_
            refine cv_Md_122_d (pc := 75) rfl d_Md_layOwed_75 ⟨⟨by decide, by decide⟩, rfl, rfl⟩ (m_pull hp0 (show pageS (sI (fillA (fillA h 57 (fun k => dueN (pageS h p) k i) (nW (pageS h p))) 56 (drawsF (pageS h p)) i) 56 i (orN (fun k => decide (0 < mostF (pageS h p) i ∧ pullF (pageS h p) k i = mostF (pageS h p) i)) q)) p = (pageS h p) by rw [page_sI hp0 (by omega), page_fill hp0 (by omega), page_fill hp0 (by omega)]) hF hq hi) (Nat.le_of_ble_eq_true rfl) ?_
            refine wh_iload_n (pc := 78) d_Md_layOwed_78 rfl rfl ?_
            refine wh_icmp_ne (pc := 79) (tgt := 89) d_Md_layOwed_79 (by decide) (fun c_79 => ?_) (fun c_79 => ?_)
            · refine wh_iconst (pc := 89) (v := 0) d_Md_layOwed_89 (by decide) ?_
              refine wh_eq j_90 rfl ?_ rfl
              rw [cl_nI (show i < 2 ^ 31 by omega), gI_sS]
              first
                | (have hc : (fun k => decide (0 < mostF (pageS h p) i ∧ pullF (pageS h p) k i = mostF (pageS h p) i)) q = true := by simp only [decide_eq_true_eq]; exact ⟨by rw [i_lt]; rw [i_le] at c_67; rw [i_0] at *; omega, c_79⟩
                   rw [if_pos hc]; done)
                | (have hc : (fun k => decide (0 < mostF (pageS h p) i ∧ pullF (pageS h p) k i = mostF (pageS h p) i)) q = false := by simp only [decide_eq_false_iff_not]; exact fun z => c_79 z.2
                   rw [hc]; rfl)
                | (have hc : (fun k => decide (0 < mostF (pageS h p) i ∧ pullF (pageS h p) k i = mostF (pageS h p) i)) q = false := by simp only [decide_eq_false_iff_not]; exact fun z => by rw [i_lt] at z; rw [i_le] at c_67; omega
                   rw [hc]; rfl)
            · refine wh_iconst (pc := 82) (v := 1) d_Md_layOwed_82 (by decide) ?_
              refine wh_iload (pc := 83) d_Md_layOwed_83 rfl ?_
              refine wh_ishl (pc := 85) d_Md_layOwed_85 ?_
              refine wh_goto (pc := 86) (tgt := 90) d_Md_layOwed_86 (by decide) ?_
              refine wh_eq j_90 rfl ?_ rfl
              rw [cl_nI (show i < 2 ^ 31 by omega), gI_sS]
              first
                | (have hc : (fun k => decide (0 < mostF (pageS h p) i ∧ pullF (pageS h p) k i = mostF (pageS h p) i)) q = true := by simp only [decide_eq_true_eq]; exact ⟨by rw [i_lt]; rw [i_le] at c_67; rw [i_0] at *; omega, c_79⟩
                   rw [if_pos hc]; done)
                | (have hc : (fun k => decide (0 < mostF (pageS h p) i ∧ pullF (pageS h p) k i = mostF (pageS h p) i)) q = false := by simp only [decide_eq_false_iff_not]; exact fun z => c_79 z.2
                   rw [hc]; rfl)
                | (have hc : (fun k => decide (0 < mostF (pageS h p) i ∧ pullF (pageS h p) k i = mostF (pageS h p) i)) q = false := by simp only [decide_eq_false_iff_not]; exact fun z => by rw [i_lt] at z; rw [i_le] at c_67; omega
                   rw [hc]; rfl)
      · rfl
      · rw [cl_nI (show i < 2 ^ 31 by omega)]; rfl
  · intro i hi _ ih
    refine wh_iload_n (pc := 2) d_Md_layOwed_2 rfl rfl ?_
    refine wh_aload_n (pc := 3) d_Md_layOwed_3 rfl rfl ?_
    refine gf_Md_66 (pc := 4) rfl d_Md_layOwed_4 ?_
    refine wh_icmp_ge (pc := 7) (tgt := 23) d_Md_layOwed_7 (by decide) (fun c_7 => absurd c_7 (by rw [gI_fillN (by omega), pf_w hF]; exact nI_ge hi (by omega))) (fun c_7 => ?_)
    refine wh_aload_n (pc := 10) d_Md_layOwed_10 rfl rfl ?_
    refine gf_Md_53 (pc := 11) rfl d_Md_layOwed_11 ?_
    refine wh_iload_n (pc := 14) d_Md_layOwed_14 rfl rfl ?_
    refine wh_iconst (pc := 15) (v := 0) d_Md_layOwed_15 (by decide) ?_
    refine wh_iast (pc := 16) d_Md_layOwed_16 rfl (by first | exact in_nI (by omega) (by omega) | (simp only [a0, a5, a10, a19]; exact in_nI (by omega) (by omega)) | exact vp_in_iff.mpr (by decide)) ?_
    refine wh_iinc (pc := 17) (ls2 := [_, _, _, _, _, _]) d_Md_layOwed_17 rfl (nI_inc _) (by decide) rfl rfl ?_
    refine wh_goto (pc := 20) (tgt := 2) d_Md_layOwed_20 (by decide) ?_
    rw [cl_nI (show i < 2 ^ 31 by omega)]
    exact wh_eq (ih trivial) rfl rfl (fill_s _ _ _ _ rfl)

theorem kl_9 : Cond.methodLink "LampMothsLaw" 9 M_Lm_init.1 ∈ lw_gt := gt_at 58 (by decide +kernel) rfl
theorem kl_13 : Cond.methodLink "LampMothsLaw" 13 M_Lm_write.1 ∈ lw_gt := gt_at 188 (by decide +kernel) rfl
theorem kl_18 : Cond.methodLink "LampMothsLaw" 18 M_Lm_wipe.1 ∈ lw_gt := gt_at 192 (by decide +kernel) rfl
theorem kl_23 : Cond.methodLink "LampMothsLaw" 23 M_Lm_fault.1 ∈ lw_gt := gt_at 196 (by decide +kernel) rfl
theorem kl_27 : Cond.methodLink "LampMothsLaw" 27 M_Lm_street.1 ∈ lw_gt := gt_at 247 (by decide +kernel) rfl
theorem kl_31 : Cond.methodLink "LampMothsLaw" 31 M_Lm_about.1 ∈ lw_gt := gt_at 255 (by decide +kernel) rfl
theorem kl_35 : Cond.methodLink "LampMothsLaw" 35 M_Lm_window.1 ∈ lw_gt := gt_at 327 (by decide +kernel) rfl
theorem kl_40 : Cond.methodLink "LampMothsLaw" 40 M_Lm_moth.1 ∈ lw_gt := gt_at 341 (by decide +kernel) rfl
theorem kl_44 : Cond.methodLink "LampMothsLaw" 44 M_Lm_pull.1 ∈ lw_gt := gt_at 351 (by decide +kernel) rfl
theorem kl_48 : Cond.methodLink "LampMothsLaw" 48 M_Lm_up.1 ∈ lw_gt := gt_at 356 (by decide +kernel) rfl
theorem kl_52 : Cond.methodLink "LampMothsLaw" 52 M_Lm_down.1 ∈ lw_gt := gt_at 385 (by decide +kernel) rfl
theorem kl_56 : Cond.methodLink "LampMothsLaw" 56 M_Lm_blow.1 ∈ lw_gt := gt_at 389 (by decide +kernel) rfl
theorem kl_60 : Cond.methodLink "LampMothsLaw" 60 M_Lm_move.1 ∈ lw_gt := gt_at 394 (by decide +kernel) rfl
theorem kl_64 : Cond.methodLink "LampMothsLaw" 64 M_Lm_night.1 ∈ lw_gt := gt_at 401 (by decide +kernel) rfl
theorem kl_68 : Cond.methodLink "LampMothsLaw" 68 M_Lm_undo.1 ∈ lw_gt := gt_at 420 (by decide +kernel) rfl
theorem kl_72 : Cond.methodLink "LampMothsLaw" 72 M_Lm_dim.1 ∈ lw_gt := gt_at 428 (by decide +kernel) rfl
theorem kl_76 : Cond.methodLink "LampMothsLaw" 76 M_Lm_cheap.1 ∈ lw_gt := gt_at 439 (by decide +kernel) rfl
theorem kl_81 : Cond.methodLink "LampMothsLaw" 81 M_Lm_moving.1 ∈ lw_gt := gt_at 459 (by decide +kernel) rfl
theorem kl_85 : Cond.methodLink "LampMothsLaw" 85 M_Lm_judge.1 ∈ lw_gt := gt_at 464 (by decide +kernel) rfl
theorem kl_89 : Cond.methodLink "LampMothsLaw" 89 M_Lm_share.1 ∈ lw_gt := gt_at 480 (by decide +kernel) rfl
theorem kl_94 : Cond.methodLink "LampMothsLaw" 94 M_Lm_count.1 ∈ lw_gt := gt_at 503 (by decide +kernel) rfl
theorem kl_99 : Cond.methodLink "LampMothsLaw" 99 M_Lm_forget.1 ∈ lw_gt := gt_at 507 (by decide +kernel) rfl
theorem kl_103 : Cond.methodLink "LampMothsLaw" 103 M_Lm_honeys.1 ∈ lw_gt := gt_at 511 (by decide +kernel) rfl
theorem kl_107 : Cond.methodLink "LampMothsLaw" 107 M_Lm_rests.1 ∈ lw_gt := gt_at 519 (by decide +kernel) rfl
theorem kl_111 : Cond.methodLink "LampMothsLaw" 111 M_Lm_clouds.1 ∈ lw_gt := gt_at 527 (by decide +kernel) rfl
theorem kl_118 : Cond.methodLink "LampMothsLaw" 118 M_Lm_seed.1 ∈ lw_gt := gt_at 535 (by decide +kernel) rfl
theorem kl_123 : Cond.methodLink "LampMothsLaw" 123 M_Lm_weeks.1 ∈ lw_gt := gt_at 539 (by decide +kernel) rfl
theorem kl_127 : Cond.methodLink "LampMothsLaw" 127 M_Lm_keep.1 ∈ lw_gt := gt_at 550 (by decide +kernel) rfl
theorem kl_131 : Cond.methodLink "LampMothsLaw" 131 M_Lm_again.1 ∈ lw_gt := gt_at 554 (by decide +kernel) rfl
theorem kl_12 : Cond.methodLink "LampMothsLaw" 12 M_Md_init.1 ∈ lw_gt := gt_at 560 (by decide +kernel) rfl
theorem kl_17 : Cond.methodLink "LampMothsLaw" 17 M_Md_write.1 ∈ lw_gt := gt_at 670 (by decide +kernel) rfl
theorem kl_22 : Cond.methodLink "LampMothsLaw" 22 M_Md_wipe.1 ∈ lw_gt := gt_at 678 (by decide +kernel) rfl
theorem kl_26 : Cond.methodLink "LampMothsLaw" 26 M_Md_fault.1 ∈ lw_gt := gt_at 682 (by decide +kernel) rfl
theorem kl_30 : Cond.methodLink "LampMothsLaw" 30 M_Md_street.1 ∈ lw_gt := gt_at 711 (by decide +kernel) rfl
theorem kl_34 : Cond.methodLink "LampMothsLaw" 34 M_Md_about.1 ∈ lw_gt := gt_at 715 (by decide +kernel) rfl
theorem kl_39 : Cond.methodLink "LampMothsLaw" 39 M_Md_window.1 ∈ lw_gt := gt_at 750 (by decide +kernel) rfl
theorem kl_43 : Cond.methodLink "LampMothsLaw" 43 M_Md_moth.1 ∈ lw_gt := gt_at 758 (by decide +kernel) rfl
theorem kl_47 : Cond.methodLink "LampMothsLaw" 47 M_Md_pull.1 ∈ lw_gt := gt_at 766 (by decide +kernel) rfl
theorem kl_51 : Cond.methodLink "LampMothsLaw" 51 M_Md_up.1 ∈ lw_gt := gt_at 770 (by decide +kernel) rfl
theorem kl_55 : Cond.methodLink "LampMothsLaw" 55 M_Md_down.1 ∈ lw_gt := gt_at 783 (by decide +kernel) rfl
theorem kl_59 : Cond.methodLink "LampMothsLaw" 59 M_Md_blow.1 ∈ lw_gt := gt_at 787 (by decide +kernel) rfl
theorem kl_63 : Cond.methodLink "LampMothsLaw" 63 M_Md_move.1 ∈ lw_gt := gt_at 792 (by decide +kernel) rfl
theorem kl_67 : Cond.methodLink "LampMothsLaw" 67 M_Md_night.1 ∈ lw_gt := gt_at 796 (by decide +kernel) rfl
theorem kl_71 : Cond.methodLink "LampMothsLaw" 71 M_Md_undo.1 ∈ lw_gt := gt_at 808 (by decide +kernel) rfl
theorem kl_75 : Cond.methodLink "LampMothsLaw" 75 M_Md_dim.1 ∈ lw_gt := gt_at 812 (by decide +kernel) rfl
theorem kl_80 : Cond.methodLink "LampMothsLaw" 80 M_Md_cheap.1 ∈ lw_gt := gt_at 825 (by decide +kernel) rfl
theorem kl_84 : Cond.methodLink "LampMothsLaw" 84 M_Md_moving.1 ∈ lw_gt := gt_at 836 (by decide +kernel) rfl
theorem kl_88 : Cond.methodLink "LampMothsLaw" 88 M_Md_judge.1 ∈ lw_gt := gt_at 848 (by decide +kernel) rfl
theorem kl_93 : Cond.methodLink "LampMothsLaw" 93 M_Md_share.1 ∈ lw_gt := gt_at 857 (by decide +kernel) rfl
theorem kl_98 : Cond.methodLink "LampMothsLaw" 98 M_Md_count.1 ∈ lw_gt := gt_at 870 (by decide +kernel) rfl
theorem kl_102 : Cond.methodLink "LampMothsLaw" 102 M_Md_forget.1 ∈ lw_gt := gt_at 874 (by decide +kernel) rfl
theorem kl_106 : Cond.methodLink "LampMothsLaw" 106 M_Md_honeys.1 ∈ lw_gt := gt_at 878 (by decide +kernel) rfl
theorem kl_110 : Cond.methodLink "LampMothsLaw" 110 M_Md_rests.1 ∈ lw_gt := gt_at 882 (by decide +kernel) rfl
theorem kl_115 : Cond.methodLink "LampMothsLaw" 115 M_Md_clouds.1 ∈ lw_gt := gt_at 894 (by decide +kernel) rfl
theorem kl_122 : Cond.methodLink "LampMothsLaw" 122 M_Md_seed.1 ∈ lw_gt := gt_at 899 (by decide +kernel) rfl
theorem kl_126 : Cond.methodLink "LampMothsLaw" 126 M_Md_weeks.1 ∈ lw_gt := gt_at 903 (by decide +kernel) rfl
theorem kl_130 : Cond.methodLink "LampMothsLaw" 130 M_Md_keep.1 ∈ lw_gt := gt_at 911 (by decide +kernel) rfl
theorem kl_134 : Cond.methodLink "LampMothsLaw" 134 M_Md_again.1 ∈ lw_gt := gt_at 915 (by decide +kernel) rfl
theorem kl_c7 : Cond.classLink "LampMothsLaw" 7 "LampMoths" ∈ lw_gt := gt_at 56 (by decide +kernel) rfl
theorem kl_c10 : Cond.classLink "LampMothsLaw" 10 "LampMothsModel" ∈ lw_gt := gt_at 558 (by decide +kernel) rfl
theorem kl_116 : Cond.constantLong "LampMothsLaw" 116 4294967295 ∈ lw_gt := gt_at 919 (by decide +kernel) rfl
section LAWC
variable {l : Launch} {D : va_G} {base b L : Nat} {xs : Nat → Int32} {h : Hp} {i : Int32}
theorem lc_0 (hr : Rel h) (g1 : vp_in (i + 1) L) (next : ∀ h2, Rel h2 → WL l D base b L xs i 933 [] h2) : WL l D base b L xs i 160 [] h := by
  refine wl_x (pc := 160) d_La_law_160 ?_
  refine wl_arg (pc := 161) (k := 1) d_La_law_161 d_La_law_162 d_La_law_163 (by decide) d_La_law_164 d_La_law_165 g1 ?_
  refine wl_ci (pc := 166) (b0 := 0) (ci := 2) (As := [.int (xs (i + 1).toNatClampNeg)]) (rest := []) d_La_law_166 k_Lm_write ⟨⟨Nat.le_of_ble_eq_true rfl, Nat.le_of_ble_eq_true rfl⟩, rfl, rfl⟩ kl_13 ki_Lm_write kz_Lm_write rfl rfl rfl (x_write _ h hr) rfl rfl rfl (Nat.le_of_ble_eq_true rfl) (fun h1 v e => ?_)
  refine wl_m (pc := 169) d_La_law_169 ?_
  refine wl_arg (pc := 170) (k := 1) d_La_law_170 d_La_law_171 d_La_law_172 (by decide) d_La_law_173 d_La_law_174 g1 ?_
  refine wl_ci (pc := 175) (b0 := 42) (ci := 3) (As := [.int (xs (i + 1).toNatClampNeg)]) (rest := [.int v]) d_La_law_175 k_Md_write ⟨⟨Nat.le_of_ble_eq_true rfl, Nat.le_of_ble_eq_true rfl⟩, rfl, rfl⟩ kl_17 ki_Md_write kz_Md_write rfl rfl rfl e rfl rfl rfl (Nat.le_of_ble_eq_true rfl) (fun h2 y e2 => ?_)
  obtain ⟨rfl, hr2⟩ := e2
  exact wl_eq (pc := 178) d_La_law_178 (by decide) (next h2 hr2)
theorem lc_1 (hr : Rel h) (next : ∀ h2, Rel h2 → WL l D base b L xs i 933 [] h2) : WL l D base b L xs i 183 [] h := by
  refine wl_x (pc := 183) d_La_law_183 ?_
  refine wl_ci (pc := 184) (b0 := 0) (ci := 2) (As := []) (rest := []) d_La_law_184 k_Lm_wipe ⟨⟨Nat.le_of_ble_eq_true rfl, Nat.le_of_ble_eq_true rfl⟩, rfl, rfl⟩ kl_18 ki_Lm_wipe kz_Lm_wipe rfl rfl rfl (x_wipe  h hr) rfl rfl rfl (Nat.le_of_ble_eq_true rfl) (fun h1 v e => ?_)
  refine wl_m (pc := 187) d_La_law_187 ?_
  refine wl_ci (pc := 188) (b0 := 42) (ci := 3) (As := []) (rest := [.int v]) d_La_law_188 k_Md_wipe ⟨⟨Nat.le_of_ble_eq_true rfl, Nat.le_of_ble_eq_true rfl⟩, rfl, rfl⟩ kl_22 ki_Md_wipe kz_Md_wipe rfl rfl rfl e rfl rfl rfl (Nat.le_of_ble_eq_true rfl) (fun h2 y e2 => ?_)
  obtain ⟨rfl, hr2⟩ := e2
  exact wl_eq (pc := 191) d_La_law_191 (by decide) (next h2 hr2)
theorem lc_2 (hr : Rel h) (next : ∀ h2, Rel h2 → WL l D base b L xs i 933 [] h2) : WL l D base b L xs i 196 [] h := by
  refine wl_x (pc := 196) d_La_law_196 ?_
  refine wl_ci (pc := 197) (b0 := 0) (ci := 2) (As := []) (rest := []) d_La_law_197 k_Lm_fault ⟨⟨Nat.le_of_ble_eq_true rfl, Nat.le_of_ble_eq_true rfl⟩, rfl, rfl⟩ kl_23 ki_Lm_fault kz_Lm_fault rfl rfl rfl (x_fault  h hr) rfl rfl rfl (Nat.le_of_ble_eq_true rfl) (fun h1 v e => ?_)
  refine wl_m (pc := 200) d_La_law_200 ?_
  refine wl_ci (pc := 201) (b0 := 42) (ci := 3) (As := []) (rest := [.int v]) d_La_law_201 k_Md_fault ⟨⟨Nat.le_of_ble_eq_true rfl, Nat.le_of_ble_eq_true rfl⟩, rfl, rfl⟩ kl_26 ki_Md_fault kz_Md_fault rfl rfl rfl e rfl rfl rfl (Nat.le_of_ble_eq_true rfl) (fun h2 y e2 => ?_)
  obtain ⟨rfl, hr2⟩ := e2
  exact wl_eq (pc := 204) d_La_law_204 (by decide) (next h2 hr2)
theorem lc_3 (hr : Rel h) (next : ∀ h2, Rel h2 → WL l D base b L xs i 933 [] h2) : WL l D base b L xs i 209 [] h := by
  refine wl_x (pc := 209) d_La_law_209 ?_
  refine wl_ci (pc := 210) (b0 := 0) (ci := 2) (As := []) (rest := []) d_La_law_210 k_Lm_street ⟨⟨Nat.le_of_ble_eq_true rfl, Nat.le_of_ble_eq_true rfl⟩, rfl, rfl⟩ kl_27 ki_Lm_street kz_Lm_street rfl rfl rfl (x_street  h hr) rfl rfl rfl (Nat.le_of_ble_eq_true rfl) (fun h1 v e => ?_)
  refine wl_m (pc := 213) d_La_law_213 ?_
  refine wl_ci (pc := 214) (b0 := 42) (ci := 3) (As := []) (rest := [.int v]) d_La_law_214 k_Md_street ⟨⟨Nat.le_of_ble_eq_true rfl, Nat.le_of_ble_eq_true rfl⟩, rfl, rfl⟩ kl_30 ki_Md_street kz_Md_street rfl rfl rfl e rfl rfl rfl (Nat.le_of_ble_eq_true rfl) (fun h2 y e2 => ?_)
  obtain ⟨rfl, hr2⟩ := e2
  exact wl_eq (pc := 217) d_La_law_217 (by decide) (next h2 hr2)
theorem lc_4 (hr : Rel h) (g1 : vp_in (i + 1) L) (next : ∀ h2, Rel h2 → WL l D base b L xs i 933 [] h2) : WL l D base b L xs i 222 [] h := by
  refine wl_x (pc := 222) d_La_law_222 ?_
  refine wl_arg (pc := 223) (k := 1) d_La_law_223 d_La_law_224 d_La_law_225 (by decide) d_La_law_226 d_La_law_227 g1 ?_
  refine wl_ci (pc := 228) (b0 := 0) (ci := 2) (As := [.int (xs (i + 1).toNatClampNeg)]) (rest := []) d_La_law_228 k_Lm_about ⟨⟨Nat.le_of_ble_eq_true rfl, Nat.le_of_ble_eq_true rfl⟩, rfl, rfl⟩ kl_31 ki_Lm_about kz_Lm_about rfl rfl rfl (x_about _ h hr) rfl rfl rfl (Nat.le_of_ble_eq_true rfl) (fun h1 v e => ?_)
  refine wl_m (pc := 231) d_La_law_231 ?_
  refine wl_arg (pc := 232) (k := 1) d_La_law_232 d_La_law_233 d_La_law_234 (by decide) d_La_law_235 d_La_law_236 g1 ?_
  refine wl_ci (pc := 237) (b0 := 42) (ci := 3) (As := [.int (xs (i + 1).toNatClampNeg)]) (rest := [.int v]) d_La_law_237 k_Md_about ⟨⟨Nat.le_of_ble_eq_true rfl, Nat.le_of_ble_eq_true rfl⟩, rfl, rfl⟩ kl_34 ki_Md_about kz_Md_about rfl rfl rfl e rfl rfl rfl (Nat.le_of_ble_eq_true rfl) (fun h2 y e2 => ?_)
  obtain ⟨rfl, hr2⟩ := e2
  exact wl_eq (pc := 240) d_La_law_240 (by decide) (next h2 hr2)
theorem lc_5 (hr : Rel h) (g1 : vp_in (i + 1) L) (g2 : vp_in (i + 2) L) (next : ∀ h2, Rel h2 → WL l D base b L xs i 933 [] h2) : WL l D base b L xs i 245 [] h := by
  refine wl_x (pc := 245) d_La_law_245 ?_
  refine wl_arg (pc := 246) (k := 1) d_La_law_246 d_La_law_247 d_La_law_248 (by decide) d_La_law_249 d_La_law_250 g1 ?_
  refine wl_arg (pc := 251) (k := 2) d_La_law_251 d_La_law_252 d_La_law_253 (by decide) d_La_law_254 d_La_law_255 g2 ?_
  refine wl_ci (pc := 256) (b0 := 0) (ci := 2) (As := [.int (xs (i + 1).toNatClampNeg), .int (xs (i + 2).toNatClampNeg)]) (rest := []) d_La_law_256 k_Lm_window ⟨⟨Nat.le_of_ble_eq_true rfl, Nat.le_of_ble_eq_true rfl⟩, rfl, rfl⟩ kl_35 ki_Lm_window kz_Lm_window rfl rfl rfl (x_window _ _ h hr) rfl rfl rfl (Nat.le_of_ble_eq_true rfl) (fun h1 v e => ?_)
  refine wl_m (pc := 259) d_La_law_259 ?_
  refine wl_arg (pc := 260) (k := 1) d_La_law_260 d_La_law_261 d_La_law_262 (by decide) d_La_law_263 d_La_law_264 g1 ?_
  refine wl_arg (pc := 265) (k := 2) d_La_law_265 d_La_law_266 d_La_law_267 (by decide) d_La_law_268 d_La_law_269 g2 ?_
  refine wl_ci (pc := 270) (b0 := 42) (ci := 3) (As := [.int (xs (i + 1).toNatClampNeg), .int (xs (i + 2).toNatClampNeg)]) (rest := [.int v]) d_La_law_270 k_Md_window ⟨⟨Nat.le_of_ble_eq_true rfl, Nat.le_of_ble_eq_true rfl⟩, rfl, rfl⟩ kl_39 ki_Md_window kz_Md_window rfl rfl rfl e rfl rfl rfl (Nat.le_of_ble_eq_true rfl) (fun h2 y e2 => ?_)
  obtain ⟨rfl, hr2⟩ := e2
  exact wl_eq (pc := 273) d_La_law_273 (by decide) (next h2 hr2)
theorem lc_6 (hr : Rel h) (g1 : vp_in (i + 1) L) (g2 : vp_in (i + 2) L) (next : ∀ h2, Rel h2 → WL l D base b L xs i 933 [] h2) : WL l D base b L xs i 278 [] h := by
  refine wl_x (pc := 278) d_La_law_278 ?_
  refine wl_arg (pc := 279) (k := 1) d_La_law_279 d_La_law_280 d_La_law_281 (by decide) d_La_law_282 d_La_law_283 g1 ?_
  refine wl_arg (pc := 284) (k := 2) d_La_law_284 d_La_law_285 d_La_law_286 (by decide) d_La_law_287 d_La_law_288 g2 ?_
  refine wl_ci (pc := 289) (b0 := 0) (ci := 2) (As := [.int (xs (i + 1).toNatClampNeg), .int (xs (i + 2).toNatClampNeg)]) (rest := []) d_La_law_289 k_Lm_moth ⟨⟨Nat.le_of_ble_eq_true rfl, Nat.le_of_ble_eq_true rfl⟩, rfl, rfl⟩ kl_40 ki_Lm_moth kz_Lm_moth rfl rfl rfl (x_moth _ _ h hr) rfl rfl rfl (Nat.le_of_ble_eq_true rfl) (fun h1 v e => ?_)
  refine wl_m (pc := 292) d_La_law_292 ?_
  refine wl_arg (pc := 293) (k := 1) d_La_law_293 d_La_law_294 d_La_law_295 (by decide) d_La_law_296 d_La_law_297 g1 ?_
  refine wl_arg (pc := 298) (k := 2) d_La_law_298 d_La_law_299 d_La_law_300 (by decide) d_La_law_301 d_La_law_302 g2 ?_
  refine wl_ci (pc := 303) (b0 := 42) (ci := 3) (As := [.int (xs (i + 1).toNatClampNeg), .int (xs (i + 2).toNatClampNeg)]) (rest := [.int v]) d_La_law_303 k_Md_moth ⟨⟨Nat.le_of_ble_eq_true rfl, Nat.le_of_ble_eq_true rfl⟩, rfl, rfl⟩ kl_43 ki_Md_moth kz_Md_moth rfl rfl rfl e rfl rfl rfl (Nat.le_of_ble_eq_true rfl) (fun h2 y e2 => ?_)
  obtain ⟨rfl, hr2⟩ := e2
  exact wl_eq (pc := 306) d_La_law_306 (by decide) (next h2 hr2)
theorem lc_7 (hr : Rel h) (g1 : vp_in (i + 1) L) (g2 : vp_in (i + 2) L) (next : ∀ h2, Rel h2 → WL l D base b L xs i 933 [] h2) : WL l D base b L xs i 311 [] h := by
  refine wl_x (pc := 311) d_La_law_311 ?_
  refine wl_arg (pc := 312) (k := 1) d_La_law_312 d_La_law_313 d_La_law_314 (by decide) d_La_law_315 d_La_law_316 g1 ?_
  refine wl_arg (pc := 317) (k := 2) d_La_law_317 d_La_law_318 d_La_law_319 (by decide) d_La_law_320 d_La_law_321 g2 ?_
  refine wl_ci (pc := 322) (b0 := 0) (ci := 2) (As := [.int (xs (i + 1).toNatClampNeg), .int (xs (i + 2).toNatClampNeg)]) (rest := []) d_La_law_322 k_Lm_pull ⟨⟨Nat.le_of_ble_eq_true rfl, Nat.le_of_ble_eq_true rfl⟩, rfl, rfl⟩ kl_44 ki_Lm_pull kz_Lm_pull rfl rfl rfl (x_pull _ _ h hr) rfl rfl rfl (Nat.le_of_ble_eq_true rfl) (fun h1 v e => ?_)
  refine wl_m (pc := 325) d_La_law_325 ?_
  refine wl_arg (pc := 326) (k := 1) d_La_law_326 d_La_law_327 d_La_law_328 (by decide) d_La_law_329 d_La_law_330 g1 ?_
  refine wl_arg (pc := 331) (k := 2) d_La_law_331 d_La_law_332 d_La_law_333 (by decide) d_La_law_334 d_La_law_335 g2 ?_
  refine wl_ci (pc := 336) (b0 := 42) (ci := 3) (As := [.int (xs (i + 1).toNatClampNeg), .int (xs (i + 2).toNatClampNeg)]) (rest := [.int v]) d_La_law_336 k_Md_pull ⟨⟨Nat.le_of_ble_eq_true rfl, Nat.le_of_ble_eq_true rfl⟩, rfl, rfl⟩ kl_47 ki_Md_pull kz_Md_pull rfl rfl rfl e rfl rfl rfl (Nat.le_of_ble_eq_true rfl) (fun h2 y e2 => ?_)
  obtain ⟨rfl, hr2⟩ := e2
  exact wl_eq (pc := 339) d_La_law_339 (by decide) (next h2 hr2)
theorem lc_8 (hr : Rel h) (g1 : vp_in (i + 1) L) (next : ∀ h2, Rel h2 → WL l D base b L xs i 933 [] h2) : WL l D base b L xs i 344 [] h := by
  refine wl_x (pc := 344) d_La_law_344 ?_
  refine wl_arg (pc := 345) (k := 1) d_La_law_345 d_La_law_346 d_La_law_347 (by decide) d_La_law_348 d_La_law_349 g1 ?_
  refine wl_ci (pc := 350) (b0 := 0) (ci := 2) (As := [.int (xs (i + 1).toNatClampNeg)]) (rest := []) d_La_law_350 k_Lm_up ⟨⟨Nat.le_of_ble_eq_true rfl, Nat.le_of_ble_eq_true rfl⟩, rfl, rfl⟩ kl_48 ki_Lm_up kz_Lm_up rfl rfl rfl (x_up _ h hr) rfl rfl rfl (Nat.le_of_ble_eq_true rfl) (fun h1 v e => ?_)
  refine wl_m (pc := 353) d_La_law_353 ?_
  refine wl_arg (pc := 354) (k := 1) d_La_law_354 d_La_law_355 d_La_law_356 (by decide) d_La_law_357 d_La_law_358 g1 ?_
  refine wl_ci (pc := 359) (b0 := 42) (ci := 3) (As := [.int (xs (i + 1).toNatClampNeg)]) (rest := [.int v]) d_La_law_359 k_Md_up ⟨⟨Nat.le_of_ble_eq_true rfl, Nat.le_of_ble_eq_true rfl⟩, rfl, rfl⟩ kl_51 ki_Md_up kz_Md_up rfl rfl rfl e rfl rfl rfl (Nat.le_of_ble_eq_true rfl) (fun h2 y e2 => ?_)
  obtain ⟨rfl, hr2⟩ := e2
  exact wl_eq (pc := 362) d_La_law_362 (by decide) (next h2 hr2)
theorem lc_9 (hr : Rel h) (g1 : vp_in (i + 1) L) (next : ∀ h2, Rel h2 → WL l D base b L xs i 933 [] h2) : WL l D base b L xs i 367 [] h := by
  refine wl_x (pc := 367) d_La_law_367 ?_
  refine wl_arg (pc := 368) (k := 1) d_La_law_368 d_La_law_369 d_La_law_370 (by decide) d_La_law_371 d_La_law_372 g1 ?_
  refine wl_ci (pc := 373) (b0 := 0) (ci := 2) (As := [.int (xs (i + 1).toNatClampNeg)]) (rest := []) d_La_law_373 k_Lm_down ⟨⟨Nat.le_of_ble_eq_true rfl, Nat.le_of_ble_eq_true rfl⟩, rfl, rfl⟩ kl_52 ki_Lm_down kz_Lm_down rfl rfl rfl (x_down _ h hr) rfl rfl rfl (Nat.le_of_ble_eq_true rfl) (fun h1 v e => ?_)
  refine wl_m (pc := 376) d_La_law_376 ?_
  refine wl_arg (pc := 377) (k := 1) d_La_law_377 d_La_law_378 d_La_law_379 (by decide) d_La_law_380 d_La_law_381 g1 ?_
  refine wl_ci (pc := 382) (b0 := 42) (ci := 3) (As := [.int (xs (i + 1).toNatClampNeg)]) (rest := [.int v]) d_La_law_382 k_Md_down ⟨⟨Nat.le_of_ble_eq_true rfl, Nat.le_of_ble_eq_true rfl⟩, rfl, rfl⟩ kl_55 ki_Md_down kz_Md_down rfl rfl rfl e rfl rfl rfl (Nat.le_of_ble_eq_true rfl) (fun h2 y e2 => ?_)
  obtain ⟨rfl, hr2⟩ := e2
  exact wl_eq (pc := 385) d_La_law_385 (by decide) (next h2 hr2)
theorem lc_10 (hr : Rel h) (g1 : vp_in (i + 1) L) (next : ∀ h2, Rel h2 → WL l D base b L xs i 933 [] h2) : WL l D base b L xs i 390 [] h := by
  refine wl_x (pc := 390) d_La_law_390 ?_
  refine wl_arg (pc := 391) (k := 1) d_La_law_391 d_La_law_392 d_La_law_393 (by decide) d_La_law_394 d_La_law_395 g1 ?_
  refine wl_ci (pc := 396) (b0 := 0) (ci := 2) (As := [.int (xs (i + 1).toNatClampNeg)]) (rest := []) d_La_law_396 k_Lm_blow ⟨⟨Nat.le_of_ble_eq_true rfl, Nat.le_of_ble_eq_true rfl⟩, rfl, rfl⟩ kl_56 ki_Lm_blow kz_Lm_blow rfl rfl rfl (x_blow _ h hr) rfl rfl rfl (Nat.le_of_ble_eq_true rfl) (fun h1 v e => ?_)
  refine wl_m (pc := 399) d_La_law_399 ?_
  refine wl_arg (pc := 400) (k := 1) d_La_law_400 d_La_law_401 d_La_law_402 (by decide) d_La_law_403 d_La_law_404 g1 ?_
  refine wl_ci (pc := 405) (b0 := 42) (ci := 3) (As := [.int (xs (i + 1).toNatClampNeg)]) (rest := [.int v]) d_La_law_405 k_Md_blow ⟨⟨Nat.le_of_ble_eq_true rfl, Nat.le_of_ble_eq_true rfl⟩, rfl, rfl⟩ kl_59 ki_Md_blow kz_Md_blow rfl rfl rfl e rfl rfl rfl (Nat.le_of_ble_eq_true rfl) (fun h2 y e2 => ?_)
  obtain ⟨rfl, hr2⟩ := e2
  exact wl_eq (pc := 408) d_La_law_408 (by decide) (next h2 hr2)
theorem lc_11 (hr : Rel h) (g1 : vp_in (i + 1) L) (next : ∀ h2, Rel h2 → WL l D base b L xs i 933 [] h2) : WL l D base b L xs i 413 [] h := by
  refine wl_x (pc := 413) d_La_law_413 ?_
  refine wl_arg (pc := 414) (k := 1) d_La_law_414 d_La_law_415 d_La_law_416 (by decide) d_La_law_417 d_La_law_418 g1 ?_
  refine wl_ci (pc := 419) (b0 := 0) (ci := 2) (As := [.int (xs (i + 1).toNatClampNeg)]) (rest := []) d_La_law_419 k_Lm_move ⟨⟨Nat.le_of_ble_eq_true rfl, Nat.le_of_ble_eq_true rfl⟩, rfl, rfl⟩ kl_60 ki_Lm_move kz_Lm_move rfl rfl rfl (x_move _ h hr) rfl rfl rfl (Nat.le_of_ble_eq_true rfl) (fun h1 v e => ?_)
  refine wl_m (pc := 422) d_La_law_422 ?_
  refine wl_arg (pc := 423) (k := 1) d_La_law_423 d_La_law_424 d_La_law_425 (by decide) d_La_law_426 d_La_law_427 g1 ?_
  refine wl_ci (pc := 428) (b0 := 42) (ci := 3) (As := [.int (xs (i + 1).toNatClampNeg)]) (rest := [.int v]) d_La_law_428 k_Md_move ⟨⟨Nat.le_of_ble_eq_true rfl, Nat.le_of_ble_eq_true rfl⟩, rfl, rfl⟩ kl_63 ki_Md_move kz_Md_move rfl rfl rfl e rfl rfl rfl (Nat.le_of_ble_eq_true rfl) (fun h2 y e2 => ?_)
  obtain ⟨rfl, hr2⟩ := e2
  exact wl_eq (pc := 431) d_La_law_431 (by decide) (next h2 hr2)
theorem lc_12 (hr : Rel h) (next : ∀ h2, Rel h2 → WL l D base b L xs i 933 [] h2) : WL l D base b L xs i 436 [] h := by
  refine wl_x (pc := 436) d_La_law_436 ?_
  refine wl_ci (pc := 437) (b0 := 0) (ci := 2) (As := []) (rest := []) d_La_law_437 k_Lm_night ⟨⟨Nat.le_of_ble_eq_true rfl, Nat.le_of_ble_eq_true rfl⟩, rfl, rfl⟩ kl_64 ki_Lm_night kz_Lm_night rfl rfl rfl (x_night  h hr) rfl rfl rfl (Nat.le_of_ble_eq_true rfl) (fun h1 v e => ?_)
  refine wl_m (pc := 440) d_La_law_440 ?_
  refine wl_ci (pc := 441) (b0 := 42) (ci := 3) (As := []) (rest := [.int v]) d_La_law_441 k_Md_night ⟨⟨Nat.le_of_ble_eq_true rfl, Nat.le_of_ble_eq_true rfl⟩, rfl, rfl⟩ kl_67 ki_Md_night kz_Md_night rfl rfl rfl e rfl rfl rfl (Nat.le_of_ble_eq_true rfl) (fun h2 y e2 => ?_)
  obtain ⟨rfl, hr2⟩ := e2
  exact wl_eq (pc := 444) d_La_law_444 (by decide) (next h2 hr2)
theorem lc_13 (hr : Rel h) (next : ∀ h2, Rel h2 → WL l D base b L xs i 933 [] h2) : WL l D base b L xs i 449 [] h := by
  refine wl_x (pc := 449) d_La_law_449 ?_
  refine wl_ci (pc := 450) (b0 := 0) (ci := 2) (As := []) (rest := []) d_La_law_450 k_Lm_undo ⟨⟨Nat.le_of_ble_eq_true rfl, Nat.le_of_ble_eq_true rfl⟩, rfl, rfl⟩ kl_68 ki_Lm_undo kz_Lm_undo rfl rfl rfl (x_undo  h hr) rfl rfl rfl (Nat.le_of_ble_eq_true rfl) (fun h1 v e => ?_)
  refine wl_m (pc := 453) d_La_law_453 ?_
  refine wl_ci (pc := 454) (b0 := 42) (ci := 3) (As := []) (rest := [.int v]) d_La_law_454 k_Md_undo ⟨⟨Nat.le_of_ble_eq_true rfl, Nat.le_of_ble_eq_true rfl⟩, rfl, rfl⟩ kl_71 ki_Md_undo kz_Md_undo rfl rfl rfl e rfl rfl rfl (Nat.le_of_ble_eq_true rfl) (fun h2 y e2 => ?_)
  obtain ⟨rfl, hr2⟩ := e2
  exact wl_eq (pc := 457) d_La_law_457 (by decide) (next h2 hr2)
theorem lc_14 (hr : Rel h) (g1 : vp_in (i + 1) L) (g2 : vp_in (i + 2) L) (next : ∀ h2, Rel h2 → WL l D base b L xs i 933 [] h2) : WL l D base b L xs i 462 [] h := by
  refine wl_x (pc := 462) d_La_law_462 ?_
  refine wl_arg (pc := 463) (k := 1) d_La_law_463 d_La_law_464 d_La_law_465 (by decide) d_La_law_466 d_La_law_467 g1 ?_
  refine wl_arg (pc := 468) (k := 2) d_La_law_468 d_La_law_469 d_La_law_470 (by decide) d_La_law_471 d_La_law_472 g2 ?_
  refine wl_ci (pc := 473) (b0 := 0) (ci := 2) (As := [.int (xs (i + 1).toNatClampNeg), .int (xs (i + 2).toNatClampNeg)]) (rest := []) d_La_law_473 k_Lm_dim ⟨⟨Nat.le_of_ble_eq_true rfl, Nat.le_of_ble_eq_true rfl⟩, rfl, rfl⟩ kl_72 ki_Lm_dim kz_Lm_dim rfl rfl rfl (x_dim _ _ h hr) rfl rfl rfl (Nat.le_of_ble_eq_true rfl) (fun h1 v e => ?_)
  refine wl_m (pc := 476) d_La_law_476 ?_
  refine wl_arg (pc := 477) (k := 1) d_La_law_477 d_La_law_478 d_La_law_479 (by decide) d_La_law_480 d_La_law_481 g1 ?_
  refine wl_arg (pc := 482) (k := 2) d_La_law_482 d_La_law_483 d_La_law_484 (by decide) d_La_law_485 d_La_law_486 g2 ?_
  refine wl_ci (pc := 487) (b0 := 42) (ci := 3) (As := [.int (xs (i + 1).toNatClampNeg), .int (xs (i + 2).toNatClampNeg)]) (rest := [.int v]) d_La_law_487 k_Md_dim ⟨⟨Nat.le_of_ble_eq_true rfl, Nat.le_of_ble_eq_true rfl⟩, rfl, rfl⟩ kl_75 ki_Md_dim kz_Md_dim rfl rfl rfl e rfl rfl rfl (Nat.le_of_ble_eq_true rfl) (fun h2 y e2 => ?_)
  obtain ⟨rfl, hr2⟩ := e2
  exact wl_eq (pc := 490) d_La_law_490 (by decide) (next h2 hr2)
theorem lc_15 (hr : Rel h) (g1 : vp_in (i + 1) L) (next : ∀ h2, Rel h2 → WL l D base b L xs i 933 [] h2) : WL l D base b L xs i 495 [] h := by
  refine wl_x (pc := 495) d_La_law_495 ?_
  refine wl_arg (pc := 496) (k := 1) d_La_law_496 d_La_law_497 d_La_law_498 (by decide) d_La_law_499 d_La_law_500 g1 ?_
  refine wl_bool (pc := 501) d_La_law_501 d_La_law_504 d_La_law_505 d_La_law_508 ?_
  refine wl_ci (pc := 509) (b0 := 0) (ci := 2) (As := [.int (zI (xs (i + 1).toNatClampNeg))]) (rest := []) d_La_law_509 k_Lm_cheap ⟨⟨Nat.le_of_ble_eq_true rfl, Nat.le_of_ble_eq_true rfl⟩, rfl, rfl⟩ kl_76 ki_Lm_cheap kz_Lm_cheap rfl rfl rfl (x_cheap _ (zI_two _) h hr) rfl rfl rfl (Nat.le_of_ble_eq_true rfl) (fun h1 v e => ?_)
  refine wl_m (pc := 512) d_La_law_512 ?_
  refine wl_arg (pc := 513) (k := 1) d_La_law_513 d_La_law_514 d_La_law_515 (by decide) d_La_law_516 d_La_law_517 g1 ?_
  refine wl_bool (pc := 518) d_La_law_518 d_La_law_521 d_La_law_522 d_La_law_525 ?_
  refine wl_ci (pc := 526) (b0 := 42) (ci := 3) (As := [.int (zI (xs (i + 1).toNatClampNeg))]) (rest := [.int v]) d_La_law_526 k_Md_cheap ⟨⟨Nat.le_of_ble_eq_true rfl, Nat.le_of_ble_eq_true rfl⟩, rfl, rfl⟩ kl_80 ki_Md_cheap kz_Md_cheap rfl rfl rfl e rfl rfl rfl (Nat.le_of_ble_eq_true rfl) (fun h2 y e2 => ?_)
  obtain ⟨rfl, hr2⟩ := e2
  exact wl_eq (pc := 529) d_La_law_529 (by decide) (next h2 hr2)
theorem lc_16 (hr : Rel h) (g1 : vp_in (i + 1) L) (next : ∀ h2, Rel h2 → WL l D base b L xs i 933 [] h2) : WL l D base b L xs i 534 [] h := by
  refine wl_x (pc := 534) d_La_law_534 ?_
  refine wl_arg (pc := 535) (k := 1) d_La_law_535 d_La_law_536 d_La_law_537 (by decide) d_La_law_538 d_La_law_539 g1 ?_
  refine wl_ci (pc := 540) (b0 := 0) (ci := 2) (As := [.int (xs (i + 1).toNatClampNeg)]) (rest := []) d_La_law_540 k_Lm_moving ⟨⟨Nat.le_of_ble_eq_true rfl, Nat.le_of_ble_eq_true rfl⟩, rfl, rfl⟩ kl_81 ki_Lm_moving kz_Lm_moving rfl rfl rfl (x_moving _ h hr) rfl rfl rfl (Nat.le_of_ble_eq_true rfl) (fun h1 v e => ?_)
  refine wl_m (pc := 543) d_La_law_543 ?_
  refine wl_arg (pc := 544) (k := 1) d_La_law_544 d_La_law_545 d_La_law_546 (by decide) d_La_law_547 d_La_law_548 g1 ?_
  refine wl_ci (pc := 549) (b0 := 42) (ci := 3) (As := [.int (xs (i + 1).toNatClampNeg)]) (rest := [.int v]) d_La_law_549 k_Md_moving ⟨⟨Nat.le_of_ble_eq_true rfl, Nat.le_of_ble_eq_true rfl⟩, rfl, rfl⟩ kl_84 ki_Md_moving kz_Md_moving rfl rfl rfl e rfl rfl rfl (Nat.le_of_ble_eq_true rfl) (fun h2 y e2 => ?_)
  obtain ⟨rfl, hr2⟩ := e2
  exact wl_eq (pc := 552) d_La_law_552 (by decide) (next h2 hr2)
theorem lc_17 (hr : Rel h) (g1 : vp_in (i + 1) L) (g2 : vp_in (i + 2) L) (next : ∀ h2, Rel h2 → WL l D base b L xs i 933 [] h2) : WL l D base b L xs i 557 [] h := by
  refine wl_x (pc := 557) d_La_law_557 ?_
  refine wl_arg (pc := 558) (k := 1) d_La_law_558 d_La_law_559 d_La_law_560 (by decide) d_La_law_561 d_La_law_562 g1 ?_
  refine wl_arg (pc := 563) (k := 2) d_La_law_563 d_La_law_564 d_La_law_565 (by decide) d_La_law_566 d_La_law_567 g2 ?_
  refine wl_ci (pc := 568) (b0 := 0) (ci := 2) (As := [.int (xs (i + 1).toNatClampNeg), .int (xs (i + 2).toNatClampNeg)]) (rest := []) d_La_law_568 k_Lm_judge ⟨⟨Nat.le_of_ble_eq_true rfl, Nat.le_of_ble_eq_true rfl⟩, rfl, rfl⟩ kl_85 ki_Lm_judge kz_Lm_judge rfl rfl rfl (x_judge _ _ h hr) rfl rfl rfl (Nat.le_of_ble_eq_true rfl) (fun h1 v e => ?_)
  refine wl_m (pc := 571) d_La_law_571 ?_
  refine wl_arg (pc := 572) (k := 1) d_La_law_572 d_La_law_573 d_La_law_574 (by decide) d_La_law_575 d_La_law_576 g1 ?_
  refine wl_arg (pc := 577) (k := 2) d_La_law_577 d_La_law_578 d_La_law_579 (by decide) d_La_law_580 d_La_law_581 g2 ?_
  refine wl_ci (pc := 582) (b0 := 42) (ci := 3) (As := [.int (xs (i + 1).toNatClampNeg), .int (xs (i + 2).toNatClampNeg)]) (rest := [.int v]) d_La_law_582 k_Md_judge ⟨⟨Nat.le_of_ble_eq_true rfl, Nat.le_of_ble_eq_true rfl⟩, rfl, rfl⟩ kl_88 ki_Md_judge kz_Md_judge rfl rfl rfl e rfl rfl rfl (Nat.le_of_ble_eq_true rfl) (fun h2 y e2 => ?_)
  obtain ⟨rfl, hr2⟩ := e2
  exact wl_eq (pc := 585) d_La_law_585 (by decide) (next h2 hr2)
theorem lc_18 (hr : Rel h) (g1 : vp_in (i + 1) L) (g2 : vp_in (i + 2) L) (next : ∀ h2, Rel h2 → WL l D base b L xs i 933 [] h2) : WL l D base b L xs i 590 [] h := by
  refine wl_x (pc := 590) d_La_law_590 ?_
  refine wl_arg (pc := 591) (k := 1) d_La_law_591 d_La_law_592 d_La_law_593 (by decide) d_La_law_594 d_La_law_595 g1 ?_
  refine wl_arg (pc := 596) (k := 2) d_La_law_596 d_La_law_597 d_La_law_598 (by decide) d_La_law_599 d_La_law_600 g2 ?_
  refine wl_bool (pc := 601) d_La_law_601 d_La_law_604 d_La_law_605 d_La_law_608 ?_
  refine wl_ci (pc := 609) (b0 := 0) (ci := 2) (As := [.int (xs (i + 1).toNatClampNeg), .int (zI (xs (i + 2).toNatClampNeg))]) (rest := []) d_La_law_609 k_Lm_share ⟨⟨Nat.le_of_ble_eq_true rfl, Nat.le_of_ble_eq_true rfl⟩, rfl, rfl⟩ kl_89 ki_Lm_share kz_Lm_share rfl rfl rfl (x_share _ _ h hr) rfl rfl rfl (Nat.le_of_ble_eq_true rfl) (fun h1 v e => ?_)
  refine wl_m (pc := 612) d_La_law_612 ?_
  refine wl_arg (pc := 613) (k := 1) d_La_law_613 d_La_law_614 d_La_law_615 (by decide) d_La_law_616 d_La_law_617 g1 ?_
  refine wl_arg (pc := 618) (k := 2) d_La_law_618 d_La_law_619 d_La_law_620 (by decide) d_La_law_621 d_La_law_622 g2 ?_
  refine wl_bool (pc := 623) d_La_law_623 d_La_law_626 d_La_law_627 d_La_law_630 ?_
  refine wl_ci (pc := 631) (b0 := 42) (ci := 3) (As := [.int (xs (i + 1).toNatClampNeg), .int (zI (xs (i + 2).toNatClampNeg))]) (rest := [.int v]) d_La_law_631 k_Md_share ⟨⟨Nat.le_of_ble_eq_true rfl, Nat.le_of_ble_eq_true rfl⟩, rfl, rfl⟩ kl_93 ki_Md_share kz_Md_share rfl rfl rfl e rfl rfl rfl (Nat.le_of_ble_eq_true rfl) (fun h2 y e2 => ?_)
  obtain ⟨rfl, hr2⟩ := e2
  exact wl_eq (pc := 634) d_La_law_634 (by decide) (next h2 hr2)
theorem lc_19 (hr : Rel h) (g1 : vp_in (i + 1) L) (g2 : vp_in (i + 2) L) (g3 : vp_in (i + 3) L) (next : ∀ h2, Rel h2 → WL l D base b L xs i 933 [] h2) : WL l D base b L xs i 639 [] h := by
  refine wl_x (pc := 639) d_La_law_639 ?_
  refine wl_arg (pc := 640) (k := 1) d_La_law_640 d_La_law_641 d_La_law_642 (by decide) d_La_law_643 d_La_law_644 g1 ?_
  refine wl_arg (pc := 645) (k := 2) d_La_law_645 d_La_law_646 d_La_law_647 (by decide) d_La_law_648 d_La_law_649 g2 ?_
  refine wl_arg (pc := 650) (k := 3) d_La_law_650 d_La_law_651 d_La_law_652 (by decide) d_La_law_653 d_La_law_654 g3 ?_
  refine wl_ci (pc := 655) (b0 := 0) (ci := 2) (As := [.int (xs (i + 1).toNatClampNeg), .int (xs (i + 2).toNatClampNeg), .int (xs (i + 3).toNatClampNeg)]) (rest := []) d_La_law_655 k_Lm_count ⟨⟨Nat.le_of_ble_eq_true rfl, Nat.le_of_ble_eq_true rfl⟩, rfl, rfl⟩ kl_94 ki_Lm_count kz_Lm_count rfl rfl rfl (x_count _ _ _ h hr) rfl rfl rfl (Nat.le_of_ble_eq_true rfl) (fun h1 v e => ?_)
  refine wl_m (pc := 658) d_La_law_658 ?_
  refine wl_arg (pc := 659) (k := 1) d_La_law_659 d_La_law_660 d_La_law_661 (by decide) d_La_law_662 d_La_law_663 g1 ?_
  refine wl_arg (pc := 664) (k := 2) d_La_law_664 d_La_law_665 d_La_law_666 (by decide) d_La_law_667 d_La_law_668 g2 ?_
  refine wl_arg (pc := 669) (k := 3) d_La_law_669 d_La_law_670 d_La_law_671 (by decide) d_La_law_672 d_La_law_673 g3 ?_
  refine wl_ci (pc := 674) (b0 := 42) (ci := 3) (As := [.int (xs (i + 1).toNatClampNeg), .int (xs (i + 2).toNatClampNeg), .int (xs (i + 3).toNatClampNeg)]) (rest := [.int v]) d_La_law_674 k_Md_count ⟨⟨Nat.le_of_ble_eq_true rfl, Nat.le_of_ble_eq_true rfl⟩, rfl, rfl⟩ kl_98 ki_Md_count kz_Md_count rfl rfl rfl e rfl rfl rfl (Nat.le_of_ble_eq_true rfl) (fun h2 y e2 => ?_)
  obtain ⟨rfl, hr2⟩ := e2
  exact wl_eq (pc := 677) d_La_law_677 (by decide) (next h2 hr2)
theorem lc_20 (hr : Rel h) (next : ∀ h2, Rel h2 → WL l D base b L xs i 933 [] h2) : WL l D base b L xs i 682 [] h := by
  refine wl_x (pc := 682) d_La_law_682 ?_
  refine wl_ci (pc := 683) (b0 := 0) (ci := 2) (As := []) (rest := []) d_La_law_683 k_Lm_forget ⟨⟨Nat.le_of_ble_eq_true rfl, Nat.le_of_ble_eq_true rfl⟩, rfl, rfl⟩ kl_99 ki_Lm_forget kz_Lm_forget rfl rfl rfl (x_forget  h hr) rfl rfl rfl (Nat.le_of_ble_eq_true rfl) (fun h1 v e => ?_)
  refine wl_m (pc := 686) d_La_law_686 ?_
  refine wl_ci (pc := 687) (b0 := 42) (ci := 3) (As := []) (rest := [.int v]) d_La_law_687 k_Md_forget ⟨⟨Nat.le_of_ble_eq_true rfl, Nat.le_of_ble_eq_true rfl⟩, rfl, rfl⟩ kl_102 ki_Md_forget kz_Md_forget rfl rfl rfl e rfl rfl rfl (Nat.le_of_ble_eq_true rfl) (fun h2 y e2 => ?_)
  obtain ⟨rfl, hr2⟩ := e2
  exact wl_eq (pc := 690) d_La_law_690 (by decide) (next h2 hr2)
theorem lc_21 (hr : Rel h) (next : ∀ h2, Rel h2 → WL l D base b L xs i 933 [] h2) : WL l D base b L xs i 695 [] h := by
  refine wl_x (pc := 695) d_La_law_695 ?_
  refine wl_ci (pc := 696) (b0 := 0) (ci := 2) (As := []) (rest := []) d_La_law_696 k_Lm_honeys ⟨⟨Nat.le_of_ble_eq_true rfl, Nat.le_of_ble_eq_true rfl⟩, rfl, rfl⟩ kl_103 ki_Lm_honeys kz_Lm_honeys rfl rfl rfl (x_honeys  h hr) rfl rfl rfl (Nat.le_of_ble_eq_true rfl) (fun h1 v e => ?_)
  refine wl_m (pc := 699) d_La_law_699 ?_
  refine wl_ci (pc := 700) (b0 := 42) (ci := 3) (As := []) (rest := [.int v]) d_La_law_700 k_Md_honeys ⟨⟨Nat.le_of_ble_eq_true rfl, Nat.le_of_ble_eq_true rfl⟩, rfl, rfl⟩ kl_106 ki_Md_honeys kz_Md_honeys rfl rfl rfl e rfl rfl rfl (Nat.le_of_ble_eq_true rfl) (fun h2 y e2 => ?_)
  obtain ⟨rfl, hr2⟩ := e2
  exact wl_eq (pc := 703) d_La_law_703 (by decide) (next h2 hr2)
theorem lc_22 (hr : Rel h) (g1 : vp_in (i + 1) L) (g2 : vp_in (i + 2) L) (g3 : vp_in (i + 3) L) (next : ∀ h2, Rel h2 → WL l D base b L xs i 933 [] h2) : WL l D base b L xs i 708 [] h := by
  refine wl_x (pc := 708) d_La_law_708 ?_
  refine wl_arg (pc := 709) (k := 1) d_La_law_709 d_La_law_710 d_La_law_711 (by decide) d_La_law_712 d_La_law_713 g1 ?_
  refine wl_arg (pc := 714) (k := 2) d_La_law_714 d_La_law_715 d_La_law_716 (by decide) d_La_law_717 d_La_law_718 g2 ?_
  refine wl_arg (pc := 719) (k := 3) d_La_law_719 d_La_law_720 d_La_law_721 (by decide) d_La_law_722 d_La_law_723 g3 ?_
  refine wl_ci (pc := 724) (b0 := 0) (ci := 2) (As := [.int (xs (i + 1).toNatClampNeg), .int (xs (i + 2).toNatClampNeg), .int (xs (i + 3).toNatClampNeg)]) (rest := []) d_La_law_724 k_Lm_rests ⟨⟨Nat.le_of_ble_eq_true rfl, Nat.le_of_ble_eq_true rfl⟩, rfl, rfl⟩ kl_107 ki_Lm_rests kz_Lm_rests rfl rfl rfl (x_rests _ _ _ h hr) rfl rfl rfl (Nat.le_of_ble_eq_true rfl) (fun h1 v e => ?_)
  refine wl_m (pc := 727) d_La_law_727 ?_
  refine wl_arg (pc := 728) (k := 1) d_La_law_728 d_La_law_729 d_La_law_730 (by decide) d_La_law_731 d_La_law_732 g1 ?_
  refine wl_arg (pc := 733) (k := 2) d_La_law_733 d_La_law_734 d_La_law_735 (by decide) d_La_law_736 d_La_law_737 g2 ?_
  refine wl_arg (pc := 738) (k := 3) d_La_law_738 d_La_law_739 d_La_law_740 (by decide) d_La_law_741 d_La_law_742 g3 ?_
  refine wl_ci (pc := 743) (b0 := 42) (ci := 3) (As := [.int (xs (i + 1).toNatClampNeg), .int (xs (i + 2).toNatClampNeg), .int (xs (i + 3).toNatClampNeg)]) (rest := [.int v]) d_La_law_743 k_Md_rests ⟨⟨Nat.le_of_ble_eq_true rfl, Nat.le_of_ble_eq_true rfl⟩, rfl, rfl⟩ kl_110 ki_Md_rests kz_Md_rests rfl rfl rfl e rfl rfl rfl (Nat.le_of_ble_eq_true rfl) (fun h2 y e2 => ?_)
  obtain ⟨rfl, hr2⟩ := e2
  exact wl_eq (pc := 746) d_La_law_746 (by decide) (next h2 hr2)
theorem lc_23 (hr : Rel h) (g1 : vp_in (i + 1) L) (g2 : vp_in (i + 2) L) (g3 : vp_in (i + 3) L) (next : ∀ h2, Rel h2 → WL l D base b L xs i 933 [] h2) : WL l D base b L xs i 751 [] h := by
  refine wl_x (pc := 751) d_La_law_751 ?_
  refine wl_arg (pc := 752) (k := 1) d_La_law_752 d_La_law_753 d_La_law_754 (by decide) d_La_law_755 d_La_law_756 g1 ?_
  refine wl_arg (pc := 757) (k := 2) d_La_law_757 d_La_law_758 d_La_law_759 (by decide) d_La_law_760 d_La_law_761 g2 ?_
  refine wl_arg (pc := 762) (k := 3) d_La_law_762 d_La_law_763 d_La_law_764 (by decide) d_La_law_765 d_La_law_766 g3 ?_
  refine wl_bool (pc := 767) d_La_law_767 d_La_law_770 d_La_law_771 d_La_law_774 ?_
  refine wl_ci (pc := 775) (b0 := 0) (ci := 2) (As := [.int (xs (i + 1).toNatClampNeg), .int (xs (i + 2).toNatClampNeg), .int (zI (xs (i + 3).toNatClampNeg))]) (rest := []) d_La_law_775 k_Lm_clouds ⟨⟨Nat.le_of_ble_eq_true rfl, Nat.le_of_ble_eq_true rfl⟩, rfl, rfl⟩ kl_111 ki_Lm_clouds kz_Lm_clouds rfl rfl rfl (x_clouds _ _ _ h hr) rfl rfl rfl (Nat.le_of_ble_eq_true rfl) (fun h1 v e => ?_)
  refine wl_m (pc := 778) d_La_law_778 ?_
  refine wl_arg (pc := 779) (k := 1) d_La_law_779 d_La_law_780 d_La_law_781 (by decide) d_La_law_782 d_La_law_783 g1 ?_
  refine wl_arg (pc := 784) (k := 2) d_La_law_784 d_La_law_785 d_La_law_786 (by decide) d_La_law_787 d_La_law_788 g2 ?_
  refine wl_arg (pc := 789) (k := 3) d_La_law_789 d_La_law_790 d_La_law_791 (by decide) d_La_law_792 d_La_law_793 g3 ?_
  refine wl_bool (pc := 794) d_La_law_794 d_La_law_797 d_La_law_798 d_La_law_801 ?_
  refine wl_ci (pc := 802) (b0 := 42) (ci := 3) (As := [.int (xs (i + 1).toNatClampNeg), .int (xs (i + 2).toNatClampNeg), .int (zI (xs (i + 3).toNatClampNeg))]) (rest := [.int v]) d_La_law_802 k_Md_clouds ⟨⟨Nat.le_of_ble_eq_true rfl, Nat.le_of_ble_eq_true rfl⟩, rfl, rfl⟩ kl_115 ki_Md_clouds kz_Md_clouds rfl rfl rfl e rfl rfl rfl (Nat.le_of_ble_eq_true rfl) (fun h2 y e2 => ?_)
  obtain ⟨rfl, hr2⟩ := e2
  exact wl_eq (pc := 805) d_La_law_805 (by decide) (next h2 hr2)
theorem lc_24 (hr : Rel h) (g1 : vp_in (i + 1) L) (g2 : vp_in (i + 2) L) (next : ∀ h2, Rel h2 → WL l D base b L xs i 933 [] h2) : WL l D base b L xs i 810 [] h := by
  refine wl_x (pc := 810) d_La_law_810 ?_
  refine wl_arg (pc := 811) (k := 1) d_La_law_811 d_La_law_812 d_La_law_813 (by decide) d_La_law_814 d_La_law_815 g1 ?_
  refine wl_shl (pc := 816) d_La_law_816 d_La_law_817 d_La_law_819 ?_
  refine wl_arg (pc := 820) (k := 2) d_La_law_820 d_La_law_821 d_La_law_822 (by decide) d_La_law_823 d_La_law_824 g2 ?_
  refine wl_low (pc := 825) kl_116 d_La_law_825 d_La_law_826 d_La_law_829 d_La_law_830 ?_
  refine wl_call (pc := 831) (b0 := 0) (ci := 2) (As := [.long (sdL (xs (i + 1).toNatClampNeg) (xs (i + 2).toNatClampNeg))]) (rest := []) d_La_law_831 k_Lm_seed ⟨⟨Nat.le_of_ble_eq_true rfl, Nat.le_of_ble_eq_true rfl⟩, rfl, rfl⟩ kl_118 ki_Lm_seed kz_Lm_seed rfl rfl rfl c_seed rfl rfl rfl (Nat.le_of_ble_eq_true rfl) (fun h2 r e => ?_)
  obtain ⟨rfl, rfl⟩ := e
  refine wl_m (pc := 834) d_La_law_834 ?_
  refine wl_arg (pc := 835) (k := 1) d_La_law_835 d_La_law_836 d_La_law_837 (by decide) d_La_law_838 d_La_law_839 g1 ?_
  refine wl_shl (pc := 840) d_La_law_840 d_La_law_841 d_La_law_843 ?_
  refine wl_arg (pc := 844) (k := 2) d_La_law_844 d_La_law_845 d_La_law_846 (by decide) d_La_law_847 d_La_law_848 g2 ?_
  refine wl_low (pc := 849) kl_116 d_La_law_849 d_La_law_850 d_La_law_853 d_La_law_854 ?_
  refine wl_call (pc := 855) (b0 := 42) (ci := 3) (As := [.long (sdL (xs (i + 1).toNatClampNeg) (xs (i + 2).toNatClampNeg))]) (rest := [.long (gL h 0 14)]) d_La_law_855 k_Md_seed ⟨⟨Nat.le_of_ble_eq_true rfl, Nat.le_of_ble_eq_true rfl⟩, rfl, rfl⟩ kl_122 ki_Md_seed kz_Md_seed rfl rfl rfl r_seed rfl rfl rfl (Nat.le_of_ble_eq_true rfl) (fun h2 r e => ?_)
  obtain ⟨rfl, rfl⟩ := e
  have e9 := rel_seed (v := sdL (xs (i + 1).toNatClampNeg) (xs (i + 2).toNatClampNeg)) hr
  show WL l D base b L xs i 858 [.long (gL (sL h 0 14 (sdL (xs (i + 1).toNatClampNeg) (xs (i + 2).toNatClampNeg))) 42 24), .long (gL h 0 14)] _
  rw [e9.1]
  exact wl_leq (pc := 858) d_La_law_858 d_La_law_859 (by decide) (next _ e9.2)
theorem lc_25 (hr : Rel h) (g1 : vp_in (i + 1) L) (next : ∀ h2, Rel h2 → WL l D base b L xs i 933 [] h2) : WL l D base b L xs i 864 [] h := by
  refine wl_x (pc := 864) d_La_law_864 ?_
  refine wl_arg (pc := 865) (k := 1) d_La_law_865 d_La_law_866 d_La_law_867 (by decide) d_La_law_868 d_La_law_869 g1 ?_
  refine wl_ci (pc := 870) (b0 := 0) (ci := 2) (As := [.int (xs (i + 1).toNatClampNeg)]) (rest := []) d_La_law_870 k_Lm_weeks ⟨⟨Nat.le_of_ble_eq_true rfl, Nat.le_of_ble_eq_true rfl⟩, rfl, rfl⟩ kl_123 ki_Lm_weeks kz_Lm_weeks rfl rfl rfl (x_weeks _ h hr) rfl rfl rfl (Nat.le_of_ble_eq_true rfl) (fun h1 v e => ?_)
  refine wl_m (pc := 873) d_La_law_873 ?_
  refine wl_arg (pc := 874) (k := 1) d_La_law_874 d_La_law_875 d_La_law_876 (by decide) d_La_law_877 d_La_law_878 g1 ?_
  refine wl_ci (pc := 879) (b0 := 42) (ci := 3) (As := [.int (xs (i + 1).toNatClampNeg)]) (rest := [.int v]) d_La_law_879 k_Md_weeks ⟨⟨Nat.le_of_ble_eq_true rfl, Nat.le_of_ble_eq_true rfl⟩, rfl, rfl⟩ kl_126 ki_Md_weeks kz_Md_weeks rfl rfl rfl e rfl rfl rfl (Nat.le_of_ble_eq_true rfl) (fun h2 y e2 => ?_)
  obtain ⟨rfl, hr2⟩ := e2
  exact wl_eq (pc := 882) d_La_law_882 (by decide) (next h2 hr2)
theorem lc_26 (hr : Rel h) (g1 : vp_in (i + 1) L) (next : ∀ h2, Rel h2 → WL l D base b L xs i 933 [] h2) : WL l D base b L xs i 887 [] h := by
  refine wl_x (pc := 887) d_La_law_887 ?_
  refine wl_arg (pc := 888) (k := 1) d_La_law_888 d_La_law_889 d_La_law_890 (by decide) d_La_law_891 d_La_law_892 g1 ?_
  refine wl_ci (pc := 893) (b0 := 0) (ci := 2) (As := [.int (xs (i + 1).toNatClampNeg)]) (rest := []) d_La_law_893 k_Lm_keep ⟨⟨Nat.le_of_ble_eq_true rfl, Nat.le_of_ble_eq_true rfl⟩, rfl, rfl⟩ kl_127 ki_Lm_keep kz_Lm_keep rfl rfl rfl (x_keep _ h hr) rfl rfl rfl (Nat.le_of_ble_eq_true rfl) (fun h1 v e => ?_)
  refine wl_m (pc := 896) d_La_law_896 ?_
  refine wl_arg (pc := 897) (k := 1) d_La_law_897 d_La_law_898 d_La_law_899 (by decide) d_La_law_900 d_La_law_901 g1 ?_
  refine wl_ci (pc := 902) (b0 := 42) (ci := 3) (As := [.int (xs (i + 1).toNatClampNeg)]) (rest := [.int v]) d_La_law_902 k_Md_keep ⟨⟨Nat.le_of_ble_eq_true rfl, Nat.le_of_ble_eq_true rfl⟩, rfl, rfl⟩ kl_130 ki_Md_keep kz_Md_keep rfl rfl rfl e rfl rfl rfl (Nat.le_of_ble_eq_true rfl) (fun h2 y e2 => ?_)
  obtain ⟨rfl, hr2⟩ := e2
  exact wl_eq (pc := 905) d_La_law_905 (by decide) (next h2 hr2)
theorem lc_27 (hr : Rel h) (g1 : vp_in (i + 1) L) (next : ∀ h2, Rel h2 → WL l D base b L xs i 933 [] h2) : WL l D base b L xs i 910 [] h := by
  refine wl_x (pc := 910) d_La_law_910 ?_
  refine wl_arg (pc := 911) (k := 1) d_La_law_911 d_La_law_912 d_La_law_913 (by decide) d_La_law_914 d_La_law_915 g1 ?_
  refine wl_ci (pc := 916) (b0 := 0) (ci := 2) (As := [.int (xs (i + 1).toNatClampNeg)]) (rest := []) d_La_law_916 k_Lm_again ⟨⟨Nat.le_of_ble_eq_true rfl, Nat.le_of_ble_eq_true rfl⟩, rfl, rfl⟩ kl_131 ki_Lm_again kz_Lm_again rfl rfl rfl (x_again _ h hr) rfl rfl rfl (Nat.le_of_ble_eq_true rfl) (fun h1 v e => ?_)
  refine wl_m (pc := 919) d_La_law_919 ?_
  refine wl_arg (pc := 920) (k := 1) d_La_law_920 d_La_law_921 d_La_law_922 (by decide) d_La_law_923 d_La_law_924 g1 ?_
  refine wl_ci (pc := 925) (b0 := 42) (ci := 3) (As := [.int (xs (i + 1).toNatClampNeg)]) (rest := [.int v]) d_La_law_925 k_Md_again ⟨⟨Nat.le_of_ble_eq_true rfl, Nat.le_of_ble_eq_true rfl⟩, rfl, rfl⟩ kl_134 ki_Md_again kz_Md_again rfl rfl rfl e rfl rfl rfl (Nat.le_of_ble_eq_true rfl) (fun h2 y e2 => ?_)
  obtain ⟨rfl, hr2⟩ := e2
  exact wl_eq (pc := 928) d_La_law_928 (by decide) (next h2 hr2)
theorem law_step {k : Nat} (hL : L ≤ 256) (hk : k + 4 ≤ L) (hr : Rel h) (next : ∀ h2, Rel h2 → WL l D base b L xs (nI k) 933 [] h2) : WL l D base b L xs (nI k) 26 [] h := by
  have g1 : vp_in (nI k + 1) L := by
    rw [show (1 : Int32) = nI 1 from rfl, nI_add]
    exact vp_in_nI (by omega) (by omega)
  have g2 : vp_in (nI k + 2) L := by
    rw [show (2 : Int32) = nI 2 from rfl, nI_add]
    exact vp_in_nI (by omega) (by omega)
  have g3 : vp_in (nI k + 3) L := by
    rw [show (3 : Int32) = nI 3 from rfl, nI_add]
    exact vp_in_nI (by omega) (by omega)
  refine wl_sw (vp_in_nI (by omega) (by omega)) ?_
  obtain ⟨v, hv, e⟩ := pk_andE (xs (nI k).toNatClampNeg) (m := 31) 5 (by decide)
  rw [e]
  have hv : v < 32 := hv
  rcases (show v = 0 ∨ v = 1 ∨ v = 2 ∨ v = 3 ∨ v = 4 ∨ v = 5 ∨ v = 6 ∨ v = 7 ∨ v = 8 ∨ v = 9 ∨ v = 10 ∨ v = 11 ∨ v = 12 ∨ v = 13 ∨ v = 14 ∨ v = 15 ∨ v = 16 ∨ v = 17 ∨ v = 18 ∨ v = 19 ∨ v = 20 ∨ v = 21 ∨ v = 22 ∨ v = 23 ∨ v = 24 ∨ v = 25 ∨ v = 26 ∨ v = 27 ∨ 28 ≤ v by omega) with rfl | rfl | rfl | rfl | rfl | rfl | rfl | rfl | rfl | rfl | rfl | rfl | rfl | rfl | rfl | rfl | rfl | rfl | rfl | rfl | rfl | rfl | rfl | rfl | rfl | rfl | rfl | rfl | q
  · exact wl_tabIn (off := 128) (tgt := 160) (by decide) (by decide) rfl (by decide) (lc_0 hr g1 next)
  · exact wl_tabIn (off := 151) (tgt := 183) (by decide) (by decide) rfl (by decide) (lc_1 hr next)
  · exact wl_tabIn (off := 164) (tgt := 196) (by decide) (by decide) rfl (by decide) (lc_2 hr next)
  · exact wl_tabIn (off := 177) (tgt := 209) (by decide) (by decide) rfl (by decide) (lc_3 hr next)
  · exact wl_tabIn (off := 190) (tgt := 222) (by decide) (by decide) rfl (by decide) (lc_4 hr g1 next)
  · exact wl_tabIn (off := 213) (tgt := 245) (by decide) (by decide) rfl (by decide) (lc_5 hr g1 g2 next)
  · exact wl_tabIn (off := 246) (tgt := 278) (by decide) (by decide) rfl (by decide) (lc_6 hr g1 g2 next)
  · exact wl_tabIn (off := 279) (tgt := 311) (by decide) (by decide) rfl (by decide) (lc_7 hr g1 g2 next)
  · exact wl_tabIn (off := 312) (tgt := 344) (by decide) (by decide) rfl (by decide) (lc_8 hr g1 next)
  · exact wl_tabIn (off := 335) (tgt := 367) (by decide) (by decide) rfl (by decide) (lc_9 hr g1 next)
  · exact wl_tabIn (off := 358) (tgt := 390) (by decide) (by decide) rfl (by decide) (lc_10 hr g1 next)
  · exact wl_tabIn (off := 381) (tgt := 413) (by decide) (by decide) rfl (by decide) (lc_11 hr g1 next)
  · exact wl_tabIn (off := 404) (tgt := 436) (by decide) (by decide) rfl (by decide) (lc_12 hr next)
  · exact wl_tabIn (off := 417) (tgt := 449) (by decide) (by decide) rfl (by decide) (lc_13 hr next)
  · exact wl_tabIn (off := 430) (tgt := 462) (by decide) (by decide) rfl (by decide) (lc_14 hr g1 g2 next)
  · exact wl_tabIn (off := 463) (tgt := 495) (by decide) (by decide) rfl (by decide) (lc_15 hr g1 next)
  · exact wl_tabIn (off := 502) (tgt := 534) (by decide) (by decide) rfl (by decide) (lc_16 hr g1 next)
  · exact wl_tabIn (off := 525) (tgt := 557) (by decide) (by decide) rfl (by decide) (lc_17 hr g1 g2 next)
  · exact wl_tabIn (off := 558) (tgt := 590) (by decide) (by decide) rfl (by decide) (lc_18 hr g1 g2 next)
  · exact wl_tabIn (off := 607) (tgt := 639) (by decide) (by decide) rfl (by decide) (lc_19 hr g1 g2 g3 next)
  · exact wl_tabIn (off := 650) (tgt := 682) (by decide) (by decide) rfl (by decide) (lc_20 hr next)
  · exact wl_tabIn (off := 663) (tgt := 695) (by decide) (by decide) rfl (by decide) (lc_21 hr next)
  · exact wl_tabIn (off := 676) (tgt := 708) (by decide) (by decide) rfl (by decide) (lc_22 hr g1 g2 g3 next)
  · exact wl_tabIn (off := 719) (tgt := 751) (by decide) (by decide) rfl (by decide) (lc_23 hr g1 g2 g3 next)
  · exact wl_tabIn (off := 778) (tgt := 810) (by decide) (by decide) rfl (by decide) (lc_24 hr g1 g2 next)
  · exact wl_tabIn (off := 832) (tgt := 864) (by decide) (by decide) rfl (by decide) (lc_25 hr g1 next)
  · exact wl_tabIn (off := 855) (tgt := 887) (by decide) (by decide) rfl (by decide) (lc_26 hr g1 next)
  · exact wl_tabIn (off := 878) (tgt := 910) (by decide) (by decide) rfl (by decide) (lc_27 hr g1 next)
  · exact wl_tabOut (Or.inr (by rw [nI_toInt (by omega)]; omega)) (next h hr)
/-- the law's loop: at its head, k ints read -/
theorem law_loop (hL : L ≤ 256) : ∀ (n k : Nat) (h : Hp), k ≤ L → L + 1 ≤ k + n → Rel h → WL l D base b L xs (nI k) 18 [] h
  | 0, k, h, h1, h2, hr => absurd h2 (by omega)
  | n + 1, k, h, h1, h2, hr => by
    refine wl_top (fun _ => wl_end) (fun q => ?_)
    have hk : k + 4 ≤ L := by
      rcases Nat.lt_or_ge L (k + 4) with z | z
      · refine absurd ?_ q
        rw [i_lt, nI_toInt (by omega)]
        have e1 : (Int32.ofNat L - 4).toInt = (L : Int) - 4 := by
          show (nI L - 4).toInt = _
          rw [Int32.toInt_sub, nI_toInt (by omega), show (4 : Int32).toInt = 4 from rfl]
          exact Int.bmod_eq_of_le (by omega) (by omega)
        rw [e1]
        omega
      · exact z
    refine law_step hL hk hr (fun h2 hr2 => wl_next ?_)
    rw [show (4 : Int32) = nI 4 from rfl, nI_add]
    exact law_loop hL n (k + 4) h2 hk (by omega) hr2
end LAWC

theorem c_streetN {l : Launch} {D : va_G} {base : Nat} {h : Hp} {len : Nat} (hl : gI h 0 1 = nI len) (h56 : len ≤ 56) (hz : ¬ (rdF (gI h 1) len).1 = -9) : SI l D base M_Lm_street [.ref 0] h (fun g x => FC h g ∧ x = -3) := by
  refine SP.of [some (.ref 0), none] (by decide) rfl (Nat.le_of_ble_eq_true rfl) ?_
  refine wh_aload_n (pc := 0) d_Lm_street_0 rfl rfl ?_
  refine wh_aload_n (pc := 1) d_Lm_street_1 rfl rfl ?_
  refine gf_Lm_24 (pc := 2) rfl d_Lm_street_2 ?_
  refine cv_Lm_68_i (pc := 5) rfl d_Lm_street_5 ⟨⟨by decide, by decide⟩, rfl, rfl⟩ (c_readInto hl h56) (Nat.le_of_ble_eq_true rfl) (fun h_5 x_5 e_5 => ?_)
  refine wh_bipush (pc := 8) (v := (-9)) d_Lm_street_8 (by decide) ?_
  refine wh_icmp_eq (pc := 10) (tgt := 16) d_Lm_street_10 (by decide) (fun c_10 => absurd c_10 (by rw [e_5.2.1]; exact hz)) (fun c_10 => ?_)
  refine wh_bipush (pc := 13) (v := (-3)) d_Lm_street_13 (by decide) ?_
  refine wh_iret (pc := 15) d_Lm_street_15 rfl ?_
  exact ⟨_, rfl, e_5.1, rfl⟩
theorem c_streetY {l : Launch} {D : va_G} {base : Nat} {h : Hp} {len : Nat} (hl : gI h 0 1 = nI len) (h56 : len ≤ 56) (hz : (rdF (gI h 1) len).1 = -9) : SI l D base M_Lm_street [.ref 0] h (fun h1 x => ∃ g n m T, FC h g ∧ (rdF (gI h 1) len).2 = (3, n, m, T) ∧ RC g 3 n m T ∧ WR (3, n, m, T) ∧ h1 = (fillA (sI (cpN g 2 10 5 6) 0 6 0) 37 (fun _ => 0) 2) ∧ x = 10 * nI n + nI m) := by
  refine SP.of [some (.ref 0), none] (by decide) rfl (Nat.le_of_ble_eq_true rfl) ?_
  refine wh_aload_n (pc := 0) d_Lm_street_0 rfl rfl ?_
  refine wh_aload_n (pc := 1) d_Lm_street_1 rfl rfl ?_
  refine gf_Lm_24 (pc := 2) rfl d_Lm_street_2 ?_
  refine cv_Lm_68_i (pc := 5) rfl d_Lm_street_5 ⟨⟨by decide, by decide⟩, rfl, rfl⟩ (c_readInto hl h56) (Nat.le_of_ble_eq_true rfl) (fun h_5 x_5 e_5 => ?_)
  refine wh_bipush (pc := 8) (v := (-9)) d_Lm_street_8 (by decide) ?_
  refine wh_icmp_eq (pc := 10) (tgt := 16) d_Lm_street_10 (by decide) (fun c_10 => ?_) (fun c_10 => absurd (by rw [e_5.2.1]; exact hz) c_10)
  refine wh_aload_n (pc := 16) d_Lm_street_16 rfl rfl ?_
  refine gf_Lm_20 (pc := 17) rfl d_Lm_street_17 ?_
  refine wh_aload_n (pc := 20) d_Lm_street_20 rfl rfl ?_
  refine gf_Lm_24 (pc := 21) rfl d_Lm_street_21 ?_
  refine cv_Lm_72_d (pc := 24) (Or.inl rfl) rfl d_Lm_street_24 ⟨⟨by decide, by decide⟩, rfl, rfl⟩ (s_copy (Or.inl rfl) (Or.inr rfl) (by decide)) (Nat.le_of_ble_eq_true rfl) ?_
  refine wh_aload_n (pc := 27) d_Lm_street_27 rfl rfl ?_
  refine wh_iconst (pc := 28) (v := 0) d_Lm_street_28 (by decide) ?_
  refine pf_Lm_39 (pc := 29) rfl d_Lm_street_29 ?_
  refine wh_iconst (pc := 32) (v := 0) d_Lm_street_32 (by decide) ?_
  refine wh_istore_n (pc := 33) (ls2 := [_, _]) d_Lm_street_33 rfl (by decide) rfl rfl ?_
  obtain ⟨n, m, T, hE, hRC, hW⟩ := e_5.2.2 (by rw [e_5.2.1]; exact hz)
  refine wh_eq (wh_loop 2 (fun i => [some (.ref 0), some (.int (nI i))]) (fun i => (fillA (sI (cpN h_5 2 10 5 6) 0 6 0) 37 (fun _ => 0) i)) (fun _ => True) ?_ ?_ 0 (Nat.zero_le _) trivial) rfl rfl (fill_0 _ _ _).symm
  · intro _
    have e26 : gI (fillA (sI (cpN h_5 2 10 5 6) 0 6 0) 37 (fun _ => 0) 2) 2 6 = nI n := by rw [gI_fillN (by decide), gI_sN (by decide), gI_cp, if_pos (by omega)]; exact hRC.2.1
    have e27 : gI (fillA (sI (cpN h_5 2 10 5 6) 0 6 0) 37 (fun _ => 0) 2) 2 7 = nI m := by rw [gI_fillN (by decide), gI_sN (by decide), gI_cp, if_pos (by omega)]; exact hRC.2.2.1
    refine wh_iload_n (pc := 34) d_Lm_street_34 rfl rfl ?_
    refine wh_iconst (pc := 35) (v := 2) d_Lm_street_35 (by decide) ?_
    refine wh_icmp_ge (pc := 36) (tgt := 52) d_Lm_street_36 (by decide) (fun c_36 => ?_) (fun c_36 => absurd (by decide) c_36)
    refine wh_bipush (pc := 52) (v := 10) d_Lm_street_52 (by decide) ?_
    refine wh_aload_n (pc := 54) d_Lm_street_54 rfl rfl ?_
    refine gf_Lm_20 (pc := 55) rfl d_Lm_street_55 ?_
    refine gf_Lm_76 (pc := 58) (Or.inl rfl) rfl d_Lm_street_58 ?_
    rw [e26]
    refine wh_imul (pc := 61) d_Lm_street_61 ?_
    refine wh_aload_n (pc := 62) d_Lm_street_62 rfl rfl ?_
    refine gf_Lm_20 (pc := 63) rfl d_Lm_street_63 ?_
    refine gf_Lm_79 (pc := 66) (Or.inl rfl) rfl d_Lm_street_66 ?_
    rw [e27]
    refine wh_iadd (pc := 69) d_Lm_street_69 ?_
    refine wh_iret (pc := 70) d_Lm_street_70 rfl ?_
    exact ⟨_, rfl, h_5, n, m, T, e_5.1, hE, hRC, hW, rfl, rfl⟩
  · intro i hi _ ih
    refine wh_iload_n (pc := 34) d_Lm_street_34 rfl rfl ?_
    refine wh_iconst (pc := 35) (v := 2) d_Lm_street_35 (by decide) ?_
    refine wh_icmp_ge (pc := 36) (tgt := 52) d_Lm_street_36 (by decide) (fun c_36 => absurd c_36 (nI_ge hi (by decide))) (fun c_36 => ?_)
    refine wh_aload_n (pc := 39) d_Lm_street_39 rfl rfl ?_
    refine gf_Lm_45 (pc := 40) rfl d_Lm_street_40 ?_
    refine wh_iload_n (pc := 43) d_Lm_street_43 rfl rfl ?_
    refine wh_iconst (pc := 44) (v := 0) d_Lm_street_44 (by decide) ?_
    refine wh_bast (pc := 45) d_Lm_street_45 rfl (in_nI (by omega) (by omega)) (by decide) ?_
    refine wh_iinc (pc := 46) (ls2 := [_, _]) d_Lm_street_46 rfl (nI_inc _) (by decide) rfl rfl ?_
    refine wh_goto (pc := 49) (tgt := 34) d_Lm_street_49 (by decide) ?_
    rw [cl_nI (show i < 2 ^ 31 by omega)]
    exact wh_eq (ih trivial) rfl rfl (fill_s _ _ _ _ rfl)
theorem r_streetN {l : Launch} {D : va_G} {base : Nat} {h : Hp} {len : Nat} (hl : gI h 42 2 = nI len) (h56 : len ≤ 56) (hz : ¬ (rdF (gI h 43) len).1 = -9) : SI l D base M_Md_street [.ref 42] h (fun g x => FM h g ∧ x = -3) := by
  refine SP.of [some (.ref 42), none] (by decide) rfl (Nat.le_of_ble_eq_true rfl) ?_
  refine wh_aload_n (pc := 0) d_Md_street_0 rfl rfl ?_
  refine wh_iconst (pc := 1) (v := 0) d_Md_street_1 (by decide) ?_
  refine pf_Md_62 (pc := 2) rfl d_Md_street_2 ?_
  refine wh_aload_n (pc := 5) d_Md_street_5 rfl rfl ?_
  refine cv_Md_116_i (pc := 6) rfl d_Md_street_6 ⟨⟨by decide, by decide⟩, rfl, rfl⟩ (m_readStreet (h := h) fm_thr hl h56) (Nat.le_of_ble_eq_true rfl) (fun h_6 x_6 e_6 => ?_)
  refine wh_bipush (pc := 9) (v := (-9)) d_Md_street_9 (by decide) ?_
  refine wh_icmp_eq (pc := 11) (tgt := 17) d_Md_street_11 (by decide) (fun c_11 => absurd c_11 (by rw [e_6.2.1]; exact hz)) (fun c_11 => ?_)
  refine wh_bipush (pc := 14) (v := (-3)) d_Md_street_14 (by decide) ?_
  refine wh_iret (pc := 16) d_Md_street_16 rfl ?_
  exact ⟨_, rfl, e_6.1, rfl⟩
def FR (h g : Hp) : Prop := g.2 = h.2 ∧ ∀ c j, ¬ scM c j → ¬ (c = 42 ∧ (j = 4 ∨ j = 6 ∨ j = 17)) → c ≠ 44 → c ≠ 45 → c ≠ 48 → c ≠ 52 → gI g c j = gI h c j
theorem FR.s {h g : Hp} {a k : Nat} {v : Int32} (f : FR h g) (ha : (a = 42 ∧ (k = 4 ∨ k = 6 ∨ k = 17)) ∨ a = 44 ∨ a = 45 ∨ a = 48 ∨ a = 52) : FR h (sI g a k v) := ⟨f.1, fun c j q1 q2 q3 q4 q5 q6 => by
  rw [gI_sM (by omega)]
  exact f.2 c j q1 q2 q3 q4 q5 q6⟩
def RD (g : Hp) (n m : Nat) (T : St) : Prop := gI g 42 4 = nI n ∧ gI g 42 6 = nI m ∧ gI g 42 8 = T 5 2 ∧ gI g 42 9 = T 5 3 ∧ (∀ k, k < n → gI g 46 (3 * k) = T 0 k ∧ gI g 46 (3 * k + 1) = T 1 k ∧ gI g 46 (3 * k + 2) = T 2 k) ∧ ∀ j, j < m → gI g 47 (2 * j) = T 3 j ∧ gI g 47 (2 * j + 1) = T 4 j
theorem RD.s {g : Hp} {n m : Nat} {T : St} {a k : Nat} {v : Int32} (r : RD g n m T) (ha : a = 44 ∨ a = 45 ∨ a = 48 ∨ a = 52 ∨ (a = 42 ∧ k = 17)) : RD (sI g a k v) n m T := by
  obtain ⟨r1, r2, r3, r4, r5, r6⟩ := r
  have e : ∀ c j, c = 42 ∧ (j = 4 ∨ j = 6 ∨ j = 8 ∨ j = 9) ∨ c = 46 ∨ c = 47 → gI (sI g a k v) c j = gI g c j := fun c j hc => gI_sM (by omega)
  refine ⟨by rw [e 42 4 (by omega)]; exact r1, by rw [e 42 6 (by omega)]; exact r2, by rw [e 42 8 (by omega)]; exact r3, by rw [e 42 9 (by omega)]; exact r4, fun q hq => ?_, fun q hq => ?_⟩
  · rw [e 46 _ (by omega), e 46 _ (by omega), e 46 _ (by omega)]; exact r5 q hq
  · rw [e 47 _ (by omega), e 47 _ (by omega)]; exact r6 q hq
def ZP (g : Hp) : Prop := ∀ j, (5 ≤ j ∧ j < 10) ∨ (16 ≤ j ∧ j < 19) → gI g 48 j = 0
def WP (g : Hp) (i : Nat) (T : St) : Prop := ∀ k, k < i → gI g 48 (19 + k) = T 0 k ∧ gI g 48 k = T 1 k ∧ gI g 44 k = T 2 k
def MP (g : Hp) (i : Nat) (T : St) : Prop := ∀ j, j < i → gI g 48 (10 + j) = T 3 j ∧ gI g 45 j = T 4 j
theorem k3 (k : Nat) : (3 : Int32) * nI k = nI (3 * k) := pk_mul 3 k
theorem p_1 (k : Nat) : nI k + 1 = nI (k + 1) := nI_1 k
theorem p_2 (k : Nat) : nI k + 2 = nI (k + 2) := nI_add k 2
theorem r_streetY {l : Launch} {D : va_G} {base : Nat} {h : Hp} {len : Nat} (hl : gI h 42 2 = nI len) (h56 : len ≤ 56) (hz : (rdF (gI h 43) len).1 = -9) : SI l D base M_Md_street [.ref 42] h (fun h2 y => ∃ n m T, (rdF (gI h 43) len).2 = (3, n, m, T) ∧ WR (3, n, m, T) ∧ y = 10 * nI n + nI m ∧ FR h h2 ∧ gI h2 42 4 = nI n ∧ gI h2 42 6 = nI m ∧ gI h2 42 17 = 0 ∧ gI h2 52 0 = 0 ∧ gI h2 52 1 = 0 ∧ WP h2 n T ∧ MP h2 m T ∧ (∀ k, k < 5 → gI h2 48 (5 + k) = 0) ∧ gI h2 48 16 = T 5 2 ∧ gI h2 48 17 = T 5 3 ∧ gI h2 48 18 = 0) := by
  refine SP.of [some (.ref 42), none] (by decide) rfl (Nat.le_of_ble_eq_true rfl) ?_
  refine wh_aload_n (pc := 0) d_Md_street_0 rfl rfl ?_
  refine wh_iconst (pc := 1) (v := 0) d_Md_street_1 (by decide) ?_
  refine pf_Md_62 (pc := 2) rfl d_Md_street_2 ?_
  refine wh_aload_n (pc := 5) d_Md_street_5 rfl rfl ?_
  refine cv_Md_116_i (pc := 6) rfl d_Md_street_6 ⟨⟨by decide, by decide⟩, rfl, rfl⟩ (m_readStreet (h := h) fm_thr hl h56) (Nat.le_of_ble_eq_true rfl) (fun h_6 x_6 e_6 => ?_)
  refine wh_bipush (pc := 9) (v := (-9)) d_Md_street_9 (by decide) ?_
  refine wh_icmp_eq (pc := 11) (tgt := 17) d_Md_street_11 (by decide) (fun c_11 => ?_) (fun c_11 => absurd (by rw [e_6.2.1]; exact hz) c_11)
  refine wh_aload_n (pc := 17) d_Md_street_17 rfl rfl ?_
  refine wh_aload_n (pc := 18) d_Md_street_18 rfl rfl ?_
  refine gf_Md_86 (pc := 19) rfl d_Md_street_19 ?_
  refine pf_Md_66 (pc := 22) rfl d_Md_street_22 ?_
  refine wh_aload_n (pc := 25) d_Md_street_25 rfl rfl ?_
  refine wh_aload_n (pc := 26) d_Md_street_26 rfl rfl ?_
  refine gf_Md_97 (pc := 27) rfl d_Md_street_27 ?_
  refine pf_Md_73 (pc := 30) rfl d_Md_street_30 ?_
  refine wh_iconst (pc := 33) (v := 0) d_Md_street_33 (by decide) ?_
  refine wh_istore_n (pc := 34) (ls2 := [_, _]) d_Md_street_34 rfl (by decide) rfl rfl ?_
  obtain ⟨n, m, T, hE, hR, hW⟩ := e_6.2.2 (by rw [e_6.2.1]; exact hz)
  have wn : n ≤ 5 := hW.2.1
  have wm : m ≤ 6 := hW.2.2.1
  obtain ⟨v1, v2, v3, v4, v5, v6, v7⟩ := hR
  have x12 : gI (sI h_6 42 4 (nI n)) 42 12 = nI m := by rw [gI_sM (by decide)]; exact v3
  rw [v2, x12]
  refine wh_loopR 24 (fun i => [some (.ref 42), some (.int (nI i))]) (fun i g => FR h g ∧ RD g n m T ∧ ∀ j, j < i → gI g 48 j = 0) ?_ ?_ 0 _ (Nat.zero_le _) ⟨?_, ?_, fun j hj => absurd hj (Nat.not_lt_zero j)⟩
  rotate_left
  rotate_left
  · exact FR.s (FR.s ⟨e_6.1.1, fun c j z1 z2 z3 z4 z5 z6 => e_6.1.2 c j z1⟩ (by omega)) (by omega)
  · refine ⟨?_, gI_sS _ _ _ _, ?_, ?_, ?_, ?_⟩
    · rw [gI_sM (by decide), gI_sS]
    · rw [gI_sM (by decide), gI_sM (by decide)]; exact v4
    · rw [gI_sM (by decide), gI_sM (by decide)]; exact v5
    · intro k hk; rw [gI_sN (by decide), gI_sN (by decide), gI_sN (by decide), gI_sN (by decide), gI_sN (by decide), gI_sN (by decide)]; exact v6 k hk
    · intro k hk; rw [gI_sN (by decide), gI_sN (by decide), gI_sN (by decide), gI_sN (by decide)]; exact v7 k hk
  · intro g hI
    refine wh_iload_n (pc := 35) d_Md_street_35 rfl rfl ?_
    refine wh_bipush (pc := 36) (v := 24) d_Md_street_36 (by decide) ?_
    refine wh_icmp_ge (pc := 38) (tgt := 54) d_Md_street_38 (by decide) (fun c_38 => ?_) (fun c_38 => absurd (by decide) c_38)
    refine wh_iconst (pc := 54) (v := 0) d_Md_street_54 (by decide) ?_
    refine wh_istore_n (pc := 55) (ls2 := [_, _]) d_Md_street_55 rfl (by decide) rfl rfl ?_
    refine wh_loopR n (fun i => [some (.ref 42), some (.int (nI i))]) (fun i g => FR h g ∧ RD g n m T ∧ (∀ j, 5 ≤ j → j < 19 → gI g 48 j = 0) ∧ WP g i T) ?_ ?_ 0 _ (Nat.zero_le _) ⟨hI.1, hI.2.1, fun j h1 h2 => hI.2.2 j (by omega), fun j hj => absurd hj (Nat.not_lt_zero j)⟩
    · intro g hI
      refine wh_iload_n (pc := 56) d_Md_street_56 rfl rfl ?_
      refine wh_aload_n (pc := 57) d_Md_street_57 rfl rfl ?_
      refine gf_Md_66 (pc := 58) rfl d_Md_street_58 ?_
      refine wh_icmp_ge (pc := 61) (tgt := 121) d_Md_street_61 (by decide) (fun c_61 => ?_) (fun c_61 => absurd (by rw [hI.2.1.1]; exact nI_le (Nat.le_refl _) (by omega)) c_61)
      refine wh_iconst (pc := 121) (v := 0) d_Md_street_121 (by decide) ?_
      refine wh_istore_n (pc := 122) (ls2 := [_, _]) d_Md_street_122 rfl (by decide) rfl rfl ?_
      refine wh_loopR m (fun i => [some (.ref 42), some (.int (nI i))]) (fun i g => FR h g ∧ RD g n m T ∧ ZP g ∧ WP g n T ∧ MP g i T) ?_ ?_ 0 _ (Nat.zero_le _) ⟨hI.1, hI.2.1, fun j hj => hI.2.2.1 j (by omega) (by omega), hI.2.2.2, fun j hj => absurd hj (Nat.not_lt_zero j)⟩
      · intro g hI
        obtain ⟨q1, q2, q3, q4, q5⟩ := hI
        have q2o := q2
        obtain ⟨r1, r2, r3, r4, r5, r6⟩ := q2
        refine wh_iload_n (pc := 123) d_Md_street_123 rfl rfl ?_
        refine wh_aload_n (pc := 124) d_Md_street_124 rfl rfl ?_
        refine gf_Md_73 (pc := 125) rfl d_Md_street_125 ?_
        refine wh_icmp_ge (pc := 128) (tgt := 170) d_Md_street_128 (by decide) (fun c_128 => ?_) (fun c_128 => absurd (by rw [r2]; exact nI_le (Nat.le_refl _) (by omega)) c_128)
        refine wh_aload_n (pc := 170) d_Md_street_170 rfl rfl ?_
        refine gf_Md_25 (pc := 171) rfl d_Md_street_171 ?_
        refine wh_bipush (pc := 174) (v := 16) d_Md_street_174 (by decide) ?_
        refine wh_aload_n (pc := 176) d_Md_street_176 rfl rfl ?_
        refine gf_Md_107 (pc := 177) rfl d_Md_street_177 ?_
        rw [r3]
        refine wh_iast (pc := 180) d_Md_street_180 rfl (in_nI (k := 16) (by decide) (by decide)) ?_
        rw [show Int32.toNatClampNeg 16 = 16 from rfl]
        refine wh_aload_n (pc := 181) d_Md_street_181 rfl rfl ?_
        refine gf_Md_25 (pc := 182) rfl d_Md_street_182 ?_
        refine wh_bipush (pc := 185) (v := 17) d_Md_street_185 (by decide) ?_
        refine wh_aload_n (pc := 187) d_Md_street_187 rfl rfl ?_
        refine gf_Md_110 (pc := 188) rfl d_Md_street_188 ?_
        rw [show gI (sI g 48 16 (T 5 2)) 42 9 = T 5 3 from (gI_sN (by decide)).trans r4]
        refine wh_iast (pc := 191) d_Md_street_191 rfl (in_nI (k := 17) (by decide) (by decide)) ?_
        rw [show Int32.toNatClampNeg 17 = 17 from rfl]
        refine wh_aload_n (pc := 192) d_Md_street_192 rfl rfl ?_
        refine wh_iconst (pc := 193) (v := 0) d_Md_street_193 (by decide) ?_
        refine pf_Md_119 (pc := 194) rfl d_Md_street_194 ?_
        refine wh_aload_n (pc := 197) d_Md_street_197 rfl rfl ?_
        refine gf_Md_37 (pc := 198) rfl d_Md_street_198 ?_
        refine wh_iconst (pc := 201) (v := 0) d_Md_street_201 (by decide) ?_
        refine wh_iconst (pc := 202) (v := 0) d_Md_street_202 (by decide) ?_
        refine wh_bast (pc := 203) d_Md_street_203 rfl (in_nI (k := 0) (by decide) (by decide)) (by decide) ?_
        rw [show Int32.toNatClampNeg 0 = 0 from rfl]
        refine wh_aload_n (pc := 204) d_Md_street_204 rfl rfl ?_
        refine gf_Md_37 (pc := 205) rfl d_Md_street_205 ?_
        refine wh_iconst (pc := 208) (v := 1) d_Md_street_208 (by decide) ?_
        refine wh_iconst (pc := 209) (v := 0) d_Md_street_209 (by decide) ?_
        refine wh_bast (pc := 210) d_Md_street_210 rfl (in_nI (k := 1) (by decide) (by decide)) (by decide) ?_
        rw [show Int32.toNatClampNeg 1 = 1 from rfl]
        refine wh_bipush (pc := 211) (v := 10) d_Md_street_211 (by decide) ?_
        refine wh_aload_n (pc := 213) d_Md_street_213 rfl rfl ?_
        refine gf_Md_66 (pc := 214) rfl d_Md_street_214 ?_
        rw [show ∀ X : Hp, gI (sI (sI (sI (sI (sI X 48 16 (T 5 2)) 48 17 (T 5 3)) 42 17 0) 52 0 0) 52 1 0) 42 4 = gI X 42 4 from fun X => by simp only [gI_sI]; rfl, r1]
        refine wh_imul (pc := 217) d_Md_street_217 ?_
        refine wh_aload_n (pc := 218) d_Md_street_218 rfl rfl ?_
        refine gf_Md_73 (pc := 219) rfl d_Md_street_219 ?_
        rw [show ∀ X : Hp, gI (sI (sI (sI (sI (sI X 48 16 (T 5 2)) 48 17 (T 5 3)) 42 17 0) 52 0 0) 52 1 0) 42 6 = gI X 42 6 from fun X => by simp only [gI_sI]; rfl, r2]
        refine wh_iadd (pc := 222) d_Md_street_222 ?_
        refine wh_iret (pc := 223) d_Md_street_223 rfl ?_
        refine ⟨_, rfl, n, m, T, hE, hW, rfl, ((((q1.s (by omega)).s (by omega)).s (by omega)).s (by omega)).s (by omega), ?_, ?_, ?_, ?_, ?_, ?_, ?_, ?_, ?_, ?_, ?_⟩
        · simp only [gI_sI]; exact r1
        · simp only [gI_sI]; exact r2
        · simp only [gI_sI]; rfl
        · simp only [gI_sI]; rfl
        · simp only [gI_sI]; rfl
        · intro k hk; have := q4 k hk; simp only [gI_sI]; grind
        · intro k hk; have := q5 k hk; simp only [gI_sI]; grind
        · intro k hk; have := q3 (5 + k) (by omega); simp only [gI_sI]; grind
        · simp only [gI_sI]; rfl
        · simp only [gI_sI]; rfl
        · simp only [gI_sI]; exact q3 18 (by omega)
      · intro i g hi hI ih
        obtain ⟨q1, q2, q3, q4, q5⟩ := hI
        have q2o := q2
        obtain ⟨r1, r2, r3, r4, r5, r6⟩ := q2
        have v1 : gI g 47 (nI (2 * i)).toNatClampNeg = T 3 i := by rw [cl_nI (by omega)]; exact (r6 i hi).1
        have v2 : gI (sI g 48 (10 + i) (T 3 i)) 47 (nI (2 * i + 1)).toNatClampNeg = T 4 i := by rw [cl_nI (by omega), gI_sN (by decide)]; exact (r6 i hi).2
        refine wh_iload_n (pc := 123) d_Md_street_123 rfl rfl ?_
        refine wh_aload_n (pc := 124) d_Md_street_124 rfl rfl ?_
        refine gf_Md_73 (pc := 125) rfl d_Md_street_125 ?_
        refine wh_icmp_ge (pc := 128) (tgt := 170) d_Md_street_128 (by decide) (fun c_128 => absurd c_128 (by rw [r2]; exact nI_ge hi (by omega))) (fun c_128 => ?_)
        refine wh_aload_n (pc := 131) d_Md_street_131 rfl rfl ?_
        refine gf_Md_25 (pc := 132) rfl d_Md_street_132 ?_
        refine wh_bipush (pc := 135) (v := 10) d_Md_street_135 (by decide) ?_
        refine wh_iload_n (pc := 137) d_Md_street_137 rfl rfl ?_
        refine wh_iadd (pc := 138) d_Md_street_138 ?_
        rw [a10]
        refine wh_aload_n (pc := 139) d_Md_street_139 rfl rfl ?_
        refine gf_Md_22 (pc := 140) rfl d_Md_street_140 ?_
        refine wh_iconst (pc := 143) (v := 2) d_Md_street_143 (by decide) ?_
        refine wh_iload_n (pc := 144) d_Md_street_144 rfl rfl ?_
        refine wh_imul (pc := 145) d_Md_street_145 ?_
        rw [two_k]
        refine wh_iald (pc := 146) d_Md_street_146 rfl (by first | exact in_nI (by omega) (by omega) | (simp only [a0, a5, a10, a19]; exact in_nI (by omega) (by omega)) | exact vp_in_iff.mpr (by decide)) ?_
        rw [v1]
        refine wh_iast (pc := 147) d_Md_street_147 rfl (by first | exact in_nI (by omega) (by omega) | (simp only [a0, a5, a10, a19]; exact in_nI (by omega) (by omega)) | exact vp_in_iff.mpr (by decide)) ?_
        rw [cl_nI (show 10 + i < 2 ^ 31 by omega)]
        refine wh_aload_n (pc := 148) d_Md_street_148 rfl rfl ?_
        refine gf_Md_16 (pc := 149) rfl d_Md_street_149 ?_
        refine wh_iload_n (pc := 152) d_Md_street_152 rfl rfl ?_
        refine wh_aload_n (pc := 153) d_Md_street_153 rfl rfl ?_
        refine gf_Md_22 (pc := 154) rfl d_Md_street_154 ?_
        refine wh_iconst (pc := 157) (v := 2) d_Md_street_157 (by decide) ?_
        refine wh_iload_n (pc := 158) d_Md_street_158 rfl rfl ?_
        refine wh_imul (pc := 159) d_Md_street_159 ?_
        rw [two_k]
        refine wh_iconst (pc := 160) (v := 1) d_Md_street_160 (by decide) ?_
        refine wh_iadd (pc := 161) d_Md_street_161 ?_
        rw [p_1]
        refine wh_iald (pc := 162) d_Md_street_162 rfl (by first | exact in_nI (by omega) (by omega) | (simp only [a0, a5, a10, a19]; exact in_nI (by omega) (by omega)) | exact vp_in_iff.mpr (by decide)) ?_
        rw [v2]
        refine wh_iast (pc := 163) d_Md_street_163 rfl (by first | exact in_nI (by omega) (by omega) | (simp only [a0, a5, a10, a19]; exact in_nI (by omega) (by omega)) | exact vp_in_iff.mpr (by decide)) ?_
        rw [cl_nI (show i < 2 ^ 31 by omega)]
        refine wh_iinc (pc := 164) (ls2 := [_, _]) d_Md_street_164 rfl (nI_inc _) (by decide) rfl rfl ?_
        refine wh_goto (pc := 167) (tgt := 123) d_Md_street_167 (by decide) ?_
        refine ih _ ⟨(q1.s (by omega)).s (by omega), (q2o.s (by omega)).s (by omega), ?_, ?_, ?_⟩
        · intro j hj; have := q3 j hj; simp only [gI_sI]; grind
        · intro k hk; have := q4 k hk; simp only [gI_sI]; grind
        · intro j hj; simp only [gI_sI]
          by_cases e : j = i
          · grind
          · have := q5 j (by omega); grind
    · intro i g hi hI ih
      obtain ⟨q1, q2, q3, q4⟩ := hI
      have q2o := q2
      obtain ⟨r1, r2, r3, r4, r5, r6⟩ := q2
      have v1 : gI g 46 (nI (3 * i)).toNatClampNeg = T 0 i := by rw [cl_nI (by omega)]; exact (r5 i hi).1
      have v2 : gI (sI g 48 (19 + i) (T 0 i)) 46 (nI (3 * i + 1)).toNatClampNeg = T 1 i := by rw [cl_nI (by omega), gI_sN (by decide)]; exact (r5 i hi).2.1
      have v3 : gI (sI (sI g 48 (19 + i) (T 0 i)) 48 i (T 1 i)) 46 (nI (3 * i + 2)).toNatClampNeg = T 2 i := by rw [cl_nI (by omega), gI_sN (by decide), gI_sN (by decide)]; exact (r5 i hi).2.2
      refine wh_iload_n (pc := 56) d_Md_street_56 rfl rfl ?_
      refine wh_aload_n (pc := 57) d_Md_street_57 rfl rfl ?_
      refine gf_Md_66 (pc := 58) rfl d_Md_street_58 ?_
      refine wh_icmp_ge (pc := 61) (tgt := 121) d_Md_street_61 (by decide) (fun c_61 => absurd c_61 (by rw [r1]; exact nI_ge hi (by omega))) (fun c_61 => ?_)
      refine wh_aload_n (pc := 64) d_Md_street_64 rfl rfl ?_
      refine gf_Md_25 (pc := 65) rfl d_Md_street_65 ?_
      refine wh_bipush (pc := 68) (v := 19) d_Md_street_68 (by decide) ?_
      refine wh_iload_n (pc := 70) d_Md_street_70 rfl rfl ?_
      refine wh_iadd (pc := 71) d_Md_street_71 ?_
      rw [a19]
      refine wh_aload_n (pc := 72) d_Md_street_72 rfl rfl ?_
      refine gf_Md_19 (pc := 73) rfl d_Md_street_73 ?_
      refine wh_iconst (pc := 76) (v := 3) d_Md_street_76 (by decide) ?_
      refine wh_iload_n (pc := 77) d_Md_street_77 rfl rfl ?_
      refine wh_imul (pc := 78) d_Md_street_78 ?_
      rw [k3]
      refine wh_iald (pc := 79) d_Md_street_79 rfl (by first | exact in_nI (by omega) (by omega) | (simp only [a0, a5, a10, a19]; exact in_nI (by omega) (by omega)) | exact vp_in_iff.mpr (by decide)) ?_
      rw [v1]
      refine wh_iast (pc := 80) d_Md_street_80 rfl (by first | exact in_nI (by omega) (by omega) | (simp only [a0, a5, a10, a19]; exact in_nI (by omega) (by omega)) | exact vp_in_iff.mpr (by decide)) ?_
      rw [cl_nI (show 19 + i < 2 ^ 31 by omega)]
      refine wh_aload_n (pc := 81) d_Md_street_81 rfl rfl ?_
      refine gf_Md_25 (pc := 82) rfl d_Md_street_82 ?_
      refine wh_iconst (pc := 85) (v := 0) d_Md_street_85 (by decide) ?_
      refine wh_iload_n (pc := 86) d_Md_street_86 rfl rfl ?_
      refine wh_iadd (pc := 87) d_Md_street_87 ?_
      rw [a0]
      refine wh_aload_n (pc := 88) d_Md_street_88 rfl rfl ?_
      refine gf_Md_19 (pc := 89) rfl d_Md_street_89 ?_
      refine wh_iconst (pc := 92) (v := 3) d_Md_street_92 (by decide) ?_
      refine wh_iload_n (pc := 93) d_Md_street_93 rfl rfl ?_
      refine wh_imul (pc := 94) d_Md_street_94 ?_
      rw [k3]
      refine wh_iconst (pc := 95) (v := 1) d_Md_street_95 (by decide) ?_
      refine wh_iadd (pc := 96) d_Md_street_96 ?_
      rw [p_1]
      refine wh_iald (pc := 97) d_Md_street_97 rfl (by first | exact in_nI (by omega) (by omega) | (simp only [a0, a5, a10, a19]; exact in_nI (by omega) (by omega)) | exact vp_in_iff.mpr (by decide)) ?_
      rw [v2]
      refine wh_iast (pc := 98) d_Md_street_98 rfl (by first | exact in_nI (by omega) (by omega) | (simp only [a0, a5, a10, a19]; exact in_nI (by omega) (by omega)) | exact vp_in_iff.mpr (by decide)) ?_
      rw [cl_nI (show i < 2 ^ 31 by omega)]
      refine wh_aload_n (pc := 99) d_Md_street_99 rfl rfl ?_
      refine gf_Md_13 (pc := 100) rfl d_Md_street_100 ?_
      refine wh_iload_n (pc := 103) d_Md_street_103 rfl rfl ?_
      refine wh_aload_n (pc := 104) d_Md_street_104 rfl rfl ?_
      refine gf_Md_19 (pc := 105) rfl d_Md_street_105 ?_
      refine wh_iconst (pc := 108) (v := 3) d_Md_street_108 (by decide) ?_
      refine wh_iload_n (pc := 109) d_Md_street_109 rfl rfl ?_
      refine wh_imul (pc := 110) d_Md_street_110 ?_
      rw [k3]
      refine wh_iconst (pc := 111) (v := 2) d_Md_street_111 (by decide) ?_
      refine wh_iadd (pc := 112) d_Md_street_112 ?_
      rw [p_2]
      refine wh_iald (pc := 113) d_Md_street_113 rfl (by first | exact in_nI (by omega) (by omega) | (simp only [a0, a5, a10, a19]; exact in_nI (by omega) (by omega)) | exact vp_in_iff.mpr (by decide)) ?_
      rw [v3]
      refine wh_iast (pc := 114) d_Md_street_114 rfl (by first | exact in_nI (by omega) (by omega) | (simp only [a0, a5, a10, a19]; exact in_nI (by omega) (by omega)) | exact vp_in_iff.mpr (by decide)) ?_
      rw [cl_nI (show i < 2 ^ 31 by omega)]
      refine wh_iinc (pc := 115) (ls2 := [_, _]) d_Md_street_115 rfl (nI_inc _) (by decide) rfl rfl ?_
      refine wh_goto (pc := 118) (tgt := 56) d_Md_street_118 (by decide) ?_
      refine ih _ ⟨((q1.s (by omega)).s (by omega)).s (by omega), ((q2o.s (by omega)).s (by omega)).s (by omega), ?_, ?_⟩
      · intro j h1 h2; have := q3 j h1 h2; simp only [gI_sI]; grind
      · intro k hk; simp only [gI_sI]
        by_cases e : k = i
        · grind
        · have := q4 k (by omega); grind
  · intro i g hi hI ih
    refine wh_iload_n (pc := 35) d_Md_street_35 rfl rfl ?_
    refine wh_bipush (pc := 36) (v := 24) d_Md_street_36 (by decide) ?_
    refine wh_icmp_ge (pc := 38) (tgt := 54) d_Md_street_38 (by decide) (fun c_38 => absurd c_38 (nI_ge hi (by decide))) (fun c_38 => ?_)
    refine wh_aload_n (pc := 41) d_Md_street_41 rfl rfl ?_
    refine gf_Md_25 (pc := 42) rfl d_Md_street_42 ?_
    refine wh_iload_n (pc := 45) d_Md_street_45 rfl rfl ?_
    refine wh_iconst (pc := 46) (v := 0) d_Md_street_46 (by decide) ?_
    refine wh_iast (pc := 47) d_Md_street_47 rfl (by first | exact in_nI (by omega) (by omega) | (simp only [a0, a5, a10, a19]; exact in_nI (by omega) (by omega)) | exact vp_in_iff.mpr (by decide)) ?_
    refine wh_iinc (pc := 48) (ls2 := [_, _]) d_Md_street_48 rfl (nI_inc _) (by decide) rfl rfl ?_
    refine wh_goto (pc := 51) (tgt := 35) d_Md_street_51 (by decide) ?_
    rw [cl_nI (show i < 2 ^ 31 by omega)]
    refine ih _ ⟨hI.1.s (by omega), hI.2.1.s (by omega), fun j hj => ?_⟩
    have := hI.2.2 j
    simp only [gI_sI]
    grind

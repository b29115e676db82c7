def RMr (g : Hp) (i n m : Nat) (T : St) : Prop := gI g 42 3 = nI i ∧ gI g 42 10 = nI n ∧ gI g 42 12 = nI m ∧ gI g 42 8 = T 5 2 ∧ gI g 42 9 = T 5 3 ∧ (∀ k, k < n → gI g 46 (3 * k) = T 0 k ∧ gI g 46 (3 * k + 1) = T 1 k ∧ gI g 46 (3 * k + 2) = T 2 k) ∧ ∀ j, j < m → gI g 47 (2 * j) = T 3 j ∧ gI g 47 (2 * j + 1) = T 4 j
theorem in_fg {c : Int32} {b : Nat} : inF (c - 48).toInt64 (0 : Int32).toInt64 (nI b).toInt64 = 0 ↔ ¬ fg c b := by
  refine (inL (c - 48) 0 (nI b) rfl (l_toI _)).trans ?_
  unfold fg
  exact Classical.not_not.symm
def RP (h : Hp) (len i : Nat) (s : RS) (g : Hp) (x : Int32) : Prop := FM h g ∧ ((x = 1 ∧ ∃ j n m T, i < j ∧ j ≤ len ∧ RMr g j n m T ∧ WR (3, n, m, T) ∧ rdR (gI h 43) (len - i) i s = rdR (gI h 43) (len - j) j (3, n, m, T)) ∨ (x = 0 ∧ ∃ p, p ≤ len ∧ gI g 42 3 = nI p ∧ (rdR (gI h 43) (len - i) i s).1 = nI p))
theorem rd_out {tx : Nat → Int32} {len i d n m : Nat} {T : St} (hi : i ≤ len) (h3 : d ≠ 3) (h : i = len ∨ (i < len ∧ rdS d n m T (tx i) = none)) : (rdR tx (len - i) i (d, n, m, T)).1 = nI i := by
  rcases h with h | ⟨h1, h2⟩
  · subst h
    rw [rd_end]
    show (if d = 3 then (-9 : Int32) else nI i) = _
    rw [if_neg h3]
  · rw [rd_none h1 h2]
theorem m_fig {l : Launch} {D : va_G} {base : Nat} {h g : Hp} {len i : Nat} (hfm : FM h g) (hl : gI h 42 2 = nI len) (h56 : len ≤ 56) (hp : gI g 42 3 = nI i) (hi : i ≤ len) {b : Nat} (hb : b ≤ 9) : SI l D base M_Md_figure [.ref 42, .int 0, .int (nI b)] g (fun g' x => (x = -9 ∧ g' = g ∧ (i = len ∨ (i < len ∧ ¬ fg (gI h 43 i) b))) ∨ (i < len ∧ fg (gI h 43 i) b ∧ x = gI h 43 i - 48 ∧ g' = sI g 42 3 (nI (i + 1)))) := by
  refine SP.of [some (.ref 42), some (.int 0), some (.int (nI b))] (by decide) rfl (Nat.le_of_ble_eq_true rfl) ?_
  have hlg : gI g 42 2 = nI len := (hfm.2 42 2 (by unfold scM; omega)).trans hl
  have ht : gI g 43 (nI i).toNatClampNeg = gI h 43 i := by rw [cl_nI (by omega)]; exact hfm.2 43 i (by unfold scM; omega)
  by_cases e : i = len
  · refine wh_aload_n (pc := 0) d_Md_figure_0 rfl rfl ?_
    refine gf_Md_81 (pc := 1) rfl d_Md_figure_1 ?_
    refine wh_aload_n (pc := 4) d_Md_figure_4 rfl rfl ?_
    refine gf_Md_78 (pc := 5) rfl d_Md_figure_5 ?_
    refine wh_icmp_eq (pc := 8) (tgt := 34) d_Md_figure_8 (by decide) (fun c_8 => ?_) (fun c_8 => absurd (by rw [hp, hlg, e]) c_8)
    refine wh_bipush (pc := 34) (v := (-9)) d_Md_figure_34 (by decide) ?_
    refine wh_iret (pc := 36) d_Md_figure_36 rfl ?_
    exact ⟨_, rfl, Or.inl ⟨rfl, rfl, Or.inl e⟩⟩
  have b8 : ¬ gI g 42 3 = gI g 42 2 := by rw [hp, hlg]; exact fun z => e ((nI_eq (by omega) (by omega)).mp z)
  rcases fg_em (gI h 43 i) b with hf | hf
  · refine wh_aload_n (pc := 0) d_Md_figure_0 rfl rfl ?_
    refine gf_Md_81 (pc := 1) rfl d_Md_figure_1 ?_
    refine wh_aload_n (pc := 4) d_Md_figure_4 rfl rfl ?_
    refine gf_Md_78 (pc := 5) rfl d_Md_figure_5 ?_
    refine wh_icmp_eq (pc := 8) (tgt := 34) d_Md_figure_8 (by decide) (fun c_8 => absurd c_8 b8) (fun c_8 => ?_)
    refine wh_aload_n (pc := 11) d_Md_figure_11 rfl rfl ?_
    refine gf_Md_7 (pc := 12) rfl d_Md_figure_12 ?_
    refine wh_aload_n (pc := 15) d_Md_figure_15 rfl rfl ?_
    refine gf_Md_81 (pc := 16) rfl d_Md_figure_16 ?_
    rw [hp]
    refine wh_iald (pc := 19) d_Md_figure_19 rfl (by first | exact in_nI (by omega) (by omega) | (simp only [a0, a5, a10, a19]; exact in_nI (by omega) (by omega)) | exact vp_in_iff.mpr (by decide)) ?_
    rw [ht]
    refine wh_bipush (pc := 20) (v := 48) d_Md_figure_20 (by decide) ?_
    refine wh_isub (pc := 22) d_Md_figure_22 ?_
    refine wh_i2l (pc := 23) d_Md_figure_23 ?_
    refine wh_iload_n (pc := 24) d_Md_figure_24 rfl rfl ?_
    refine wh_i2l (pc := 25) d_Md_figure_25 ?_
    refine wh_iload_n (pc := 26) d_Md_figure_26 rfl rfl ?_
    refine wh_i2l (pc := 27) d_Md_figure_27 ?_
    refine cs_Md_69_d (pc := 28) rfl d_Md_figure_28 ⟨⟨by decide, by decide⟩, rfl, rfl⟩ (m_in) (Nat.le_of_ble_eq_true rfl) ?_
    refine wh_if_ne (pc := 31) (tgt := 37) d_Md_figure_31 (by decide) (fun c_31 => ?_) (fun c_31 => absurd c_31 (fun z => in_fg.mp z hf))
    refine wh_aload_n (pc := 37) d_Md_figure_37 rfl rfl ?_
    refine wh_dup (pc := 38) d_Md_figure_38 rfl ?_
    refine gf_Md_81 (pc := 39) rfl d_Md_figure_39 ?_
    refine wh_iconst (pc := 42) (v := 1) d_Md_figure_42 (by decide) ?_
    rw [hp]
    refine wh_iadd (pc := 43) d_Md_figure_43 ?_
    rw [nI_1]
    refine pf_Md_81 (pc := 44) rfl d_Md_figure_44 ?_
    refine wh_aload_n (pc := 47) d_Md_figure_47 rfl rfl ?_
    refine gf_Md_7 (pc := 48) rfl d_Md_figure_48 ?_
    refine wh_aload_n (pc := 51) d_Md_figure_51 rfl rfl ?_
    refine gf_Md_81 (pc := 52) rfl d_Md_figure_52 ?_
    refine wh_iconst (pc := 55) (v := 1) d_Md_figure_55 (by decide) ?_
    rw [gI_sS]
    refine wh_isub (pc := 56) d_Md_figure_56 ?_
    rw [show nI (i + 1) - 1 = nI i from nI_pred i]
    refine wh_iald (pc := 57) d_Md_figure_57 rfl (by first | exact in_nI (by omega) (by omega) | (simp only [a0, a5, a10, a19]; exact in_nI (by omega) (by omega)) | exact vp_in_iff.mpr (by decide)) ?_
    rw [show gI (sI g 42 3 (nI (i + 1))) 43 (nI i).toNatClampNeg = gI h 43 i from (gI_sN (by decide)).trans ht]
    refine wh_bipush (pc := 58) (v := 48) d_Md_figure_58 (by decide) ?_
    refine wh_isub (pc := 60) d_Md_figure_60 ?_
    refine wh_iret (pc := 61) d_Md_figure_61 rfl ?_
    exact ⟨_, rfl, Or.inr ⟨by omega, hf, rfl, rfl⟩⟩
  · refine wh_aload_n (pc := 0) d_Md_figure_0 rfl rfl ?_
    refine gf_Md_81 (pc := 1) rfl d_Md_figure_1 ?_
    refine wh_aload_n (pc := 4) d_Md_figure_4 rfl rfl ?_
    refine gf_Md_78 (pc := 5) rfl d_Md_figure_5 ?_
    refine wh_icmp_eq (pc := 8) (tgt := 34) d_Md_figure_8 (by decide) (fun c_8 => absurd c_8 b8) (fun c_8 => ?_)
    refine wh_aload_n (pc := 11) d_Md_figure_11 rfl rfl ?_
    refine gf_Md_7 (pc := 12) rfl d_Md_figure_12 ?_
    refine wh_aload_n (pc := 15) d_Md_figure_15 rfl rfl ?_
    refine gf_Md_81 (pc := 16) rfl d_Md_figure_16 ?_
    rw [hp]
    refine wh_iald (pc := 19) d_Md_figure_19 rfl (by first | exact in_nI (by omega) (by omega) | (simp only [a0, a5, a10, a19]; exact in_nI (by omega) (by omega)) | exact vp_in_iff.mpr (by decide)) ?_
    rw [ht]
    refine wh_bipush (pc := 20) (v := 48) d_Md_figure_20 (by decide) ?_
    refine wh_isub (pc := 22) d_Md_figure_22 ?_
    refine wh_i2l (pc := 23) d_Md_figure_23 ?_
    refine wh_iload_n (pc := 24) d_Md_figure_24 rfl rfl ?_
    refine wh_i2l (pc := 25) d_Md_figure_25 ?_
    refine wh_iload_n (pc := 26) d_Md_figure_26 rfl rfl ?_
    refine wh_i2l (pc := 27) d_Md_figure_27 ?_
    refine cs_Md_69_d (pc := 28) rfl d_Md_figure_28 ⟨⟨by decide, by decide⟩, rfl, rfl⟩ (m_in) (Nat.le_of_ble_eq_true rfl) ?_
    refine wh_if_ne (pc := 31) (tgt := 37) d_Md_figure_31 (by decide) (fun c_31 => absurd (in_fg.mpr hf) c_31) (fun c_31 => ?_)
    refine wh_bipush (pc := 34) (v := (-9)) d_Md_figure_34 (by decide) ?_
    refine wh_iret (pc := 36) d_Md_figure_36 rfl ?_
    exact ⟨_, rfl, Or.inl ⟨rfl, rfl, Or.inr ⟨by omega, hf⟩⟩⟩
theorem m_readPlace {l : Launch} {D : va_G} {base : Nat} {h g : Hp} {len i : Nat} (hfm : FM h g) (hl : gI h 42 2 = nI len) (h56 : len ≤ 56) (hp : gI g 42 3 = nI i) (hi : i ≤ len) {n m : Nat} {T : St} (hr2 : gI g 42 10 = nI n) (hn5 : n < 5) (hr6 : ∀ k, k < n → gI g 46 (3 * k) = T 0 k ∧ gI g 46 (3 * k + 1) = T 1 k ∧ gI g 46 (3 * k + 2) = T 2 k) : SI l D base M_Md_readPlace [.ref 42] g (fun g' x => (x = -9 ∧ g' = g ∧ (i = len ∨ (i < len ∧ ¬ (fg (gI h 43 i) 8 ∧ anyN (fun q => decide (T 0 q = gI h 43 i - 48)) n = false)))) ∨ (i < len ∧ fg (gI h 43 i) 8 ∧ anyN (fun q => decide (T 0 q = gI h 43 i - 48)) n = false ∧ x = gI h 43 i - 48 ∧ g' = sI g 42 3 (nI (i + 1)))) := by
  refine SP.of [some (.ref 42), none, none, none] (by decide) rfl (Nat.le_of_ble_eq_true rfl) ?_
  have hlg : gI g 42 2 = nI len := (hfm.2 42 2 (by unfold scM; omega)).trans hl
  have ht : gI g 43 (nI i).toNatClampNeg = gI h 43 i := by rw [cl_nI (by omega)]; exact hfm.2 43 i (by unfold scM; omega)
  by_cases e : i = len
  · have hoff : (false && !anyN (fun q => decide (T 0 q = (-9))) n) = false := rfl
    have hwhy : i = len ∨ (i < len ∧ ¬ (fg (gI h 43 i) 8 ∧ anyN (fun q => decide (T 0 q = gI h 43 i - 48)) n = false)) := Or.inl e
    refine wh_aload_n (pc := 0) d_Md_readPlace_0 rfl rfl ?_
    refine gf_Md_81 (pc := 1) rfl d_Md_readPlace_1 ?_
    refine wh_aload_n (pc := 4) d_Md_readPlace_4 rfl rfl ?_
    refine gf_Md_78 (pc := 5) rfl d_Md_readPlace_5 ?_
    refine wh_icmp_ne (pc := 8) (tgt := 16) d_Md_readPlace_8 (by decide) (fun c_8 => absurd (by rw [hp, hlg, e]) c_8) (fun c_8 => ?_)
    refine wh_bipush (pc := 11) (v := (-9)) d_Md_readPlace_11 (by decide) ?_
    refine wh_goto (pc := 13) (tgt := 28) d_Md_readPlace_13 (by decide) ?_
    refine wh_istore_n (pc := 28) (ls2 := [_, _, _, _]) d_Md_readPlace_28 rfl (by decide) rfl rfl ?_
    refine wh_iload_n (pc := 29) d_Md_readPlace_29 rfl rfl ?_
    refine wh_i2l (pc := 30) d_Md_readPlace_30 ?_
    refine wh_lconst (pc := 31) (v := 0) d_Md_readPlace_31 (by decide) ?_
    refine wh_ldc2 (pc := 32) d_Md_readPlace_32 kc_Md_84 ?_
    refine cs_Md_69_d (pc := 35) rfl d_Md_readPlace_35 ⟨⟨by decide, by decide⟩, rfl, rfl⟩ (m_in) (Nat.le_of_ble_eq_true rfl) ?_
    refine wh_istore_n (pc := 38) (ls2 := [_, _, _, _]) d_Md_readPlace_38 rfl (by decide) rfl rfl ?_
    refine wh_iconst (pc := 39) (v := 0) d_Md_readPlace_39 (by decide) ?_
    refine wh_istore_n (pc := 40) (ls2 := [_, _, _, _]) d_Md_readPlace_40 rfl (by decide) rfl rfl ?_
    refine wh_eq (wh_loop n (fun k => [some (.ref 42), some (.int (-9)), some (.int (if false && !anyN (fun q => decide (T 0 q = (-9))) k then 1 else 0)), some (.int (nI k))]) (fun _ => g) (fun _ => True) ?_ ?_ 0 (Nat.zero_le _) trivial) ?_ rfl rfl
    · intro _
      refine wh_iload_n (pc := 41) d_Md_readPlace_41 rfl rfl ?_
      refine wh_aload_n (pc := 42) d_Md_readPlace_42 rfl rfl ?_
      refine gf_Md_86 (pc := 43) rfl d_Md_readPlace_43 ?_
      refine wh_icmp_ge (pc := 46) (tgt := 77) d_Md_readPlace_46 (by decide) (fun c_46 => ?_) (fun c_46 => absurd (by rw [hr2]; exact nI_le (Nat.le_refl _) (by omega)) c_46)
      refine wh_aload_n (pc := 77) d_Md_readPlace_77 rfl rfl ?_
      refine wh_dup (pc := 78) d_Md_readPlace_78 rfl ?_
      refine gf_Md_81 (pc := 79) rfl d_Md_readPlace_79 ?_
      refine wh_iload_n (pc := 82) d_Md_readPlace_82 rfl rfl ?_
      refine wh_if_eq (pc := 83) (tgt := 90) d_Md_readPlace_83 (by decide) (fun c_83 => ?_) (fun c_83 => absurd (by rw [hoff]; rfl) c_83)
      refine wh_iconst (pc := 90) (v := 0) d_Md_readPlace_90 (by decide) ?_
      refine wh_iadd (pc := 91) d_Md_readPlace_91 ?_
      rw [show gI g 42 3 + 0 = gI g 42 3 from Int32.add_zero _]
      refine pf_Md_81 (pc := 92) rfl d_Md_readPlace_92 ?_
      rw [sI_id rfl]
      refine wh_iload_n (pc := 95) d_Md_readPlace_95 rfl rfl ?_
      refine wh_if_eq (pc := 96) (tgt := 103) d_Md_readPlace_96 (by decide) (fun c_96 => ?_) (fun c_96 => absurd (by rw [hoff]; rfl) c_96)
      refine wh_bipush (pc := 103) (v := (-9)) d_Md_readPlace_103 (by decide) ?_
      refine wh_iret (pc := 105) d_Md_readPlace_105 rfl ?_
      exact ⟨_, rfl, Or.inl ⟨rfl, rfl, hwhy⟩⟩
    · intro k hk _ ih
      have hk3 : gI g 46 (nI (3 * k)).toNatClampNeg = T 0 k := by rw [cl_nI (by omega)]; exact (hr6 k hk).1
      have ea : anyN (fun q => decide (T 0 q = (-9))) (k + 1) = (anyN (fun q => decide (T 0 q = (-9))) k || decide (T 0 k = (-9))) := rfl
      refine wh_iload_n (pc := 41) d_Md_readPlace_41 rfl rfl ?_
      refine wh_aload_n (pc := 42) d_Md_readPlace_42 rfl rfl ?_
      refine gf_Md_86 (pc := 43) rfl d_Md_readPlace_43 ?_
      refine wh_icmp_ge (pc := 46) (tgt := 77) d_Md_readPlace_46 (by decide) (fun c_46 => absurd c_46 (by rw [hr2]; exact nI_ge hk (by omega))) (fun c_46 => ?_)
      refine wh_iload_n (pc := 49) d_Md_readPlace_49 rfl rfl ?_
      refine wh_if_eq (pc := 50) (tgt := 69) d_Md_readPlace_50 (by decide) (fun c_50 => ?_) (fun c_50 => ?_)
      · refine wh_iconst (pc := 69) (v := 0) d_Md_readPlace_69 (by decide) ?_
        refine wh_istore_n (pc := 70) (ls2 := [_, _, _, _]) d_Md_readPlace_70 rfl (by decide) rfl rfl ?_
        refine wh_iinc (pc := 71) (ls2 := [_, _, _, _]) d_Md_readPlace_71 rfl (nI_inc _) (by decide) rfl rfl ?_
        refine wh_goto (pc := 74) (tgt := 41) d_Md_readPlace_74 (by decide) ?_
        rw [t01] at c_50
        refine wh_eq (ih trivial) ?_ rfl rfl
        rw [ea]
        first
          | (rw [show (false && !(anyN (fun q => decide (T 0 q = (-9))) k || decide (T 0 k = (-9)))) = false by rw [Bool.not_or, ← Bool.and_assoc, c_50]; rfl]; rfl)
          | (have c5 : (false && !anyN (fun q => decide (T 0 q = (-9))) k) = true := by simpa using c_50
             first
               | (rw [show (false && !(anyN (fun q => decide (T 0 q = (-9))) k || decide (T 0 k = (-9)))) = false by rw [Bool.not_or, ← Bool.and_assoc, c5, c_62]; simp]; rfl)
               | (rw [show (false && !(anyN (fun q => decide (T 0 q = (-9))) k || decide (T 0 k = (-9)))) = true by rw [Bool.not_or, ← Bool.and_assoc, c5]; simpa using c_62]; rfl))
      · refine wh_aload_n (pc := 53) d_Md_readPlace_53 rfl rfl ?_
        refine gf_Md_19 (pc := 54) rfl d_Md_readPlace_54 ?_
        refine wh_iconst (pc := 57) (v := 3) d_Md_readPlace_57 (by decide) ?_
        refine wh_iload_n (pc := 58) d_Md_readPlace_58 rfl rfl ?_
        refine wh_imul (pc := 59) d_Md_readPlace_59 ?_
        rw [show (3 : Int32) * nI k = nI (3 * k) from pk_mul 3 k]
        refine wh_iald (pc := 60) d_Md_readPlace_60 rfl (by first | exact in_nI (by omega) (by omega) | (simp only [a0, a5, a10, a19]; exact in_nI (by omega) (by omega)) | exact vp_in_iff.mpr (by decide)) ?_
        rw [hk3]
        refine wh_iload_n (pc := 61) d_Md_readPlace_61 rfl rfl ?_
        refine wh_icmp_eq (pc := 62) (tgt := 69) d_Md_readPlace_62 (by decide) (fun c_62 => ?_) (fun c_62 => ?_)
        · refine wh_iconst (pc := 69) (v := 0) d_Md_readPlace_69 (by decide) ?_
          refine wh_istore_n (pc := 70) (ls2 := [_, _, _, _]) d_Md_readPlace_70 rfl (by decide) rfl rfl ?_
          refine wh_iinc (pc := 71) (ls2 := [_, _, _, _]) d_Md_readPlace_71 rfl (nI_inc _) (by decide) rfl rfl ?_
          refine wh_goto (pc := 74) (tgt := 41) d_Md_readPlace_74 (by decide) ?_
          rw [t01] at c_50
          refine wh_eq (ih trivial) ?_ rfl rfl
          rw [ea]
          first
            | (rw [show (false && !(anyN (fun q => decide (T 0 q = (-9))) k || decide (T 0 k = (-9)))) = false by rw [Bool.not_or, ← Bool.and_assoc, c_50]; rfl]; rfl)
            | (have c5 : (false && !anyN (fun q => decide (T 0 q = (-9))) k) = true := by simpa using c_50
               first
                 | (rw [show (false && !(anyN (fun q => decide (T 0 q = (-9))) k || decide (T 0 k = (-9)))) = false by rw [Bool.not_or, ← Bool.and_assoc, c5, c_62]; simp]; rfl)
                 | (rw [show (false && !(anyN (fun q => decide (T 0 q = (-9))) k || decide (T 0 k = (-9)))) = true by rw [Bool.not_or, ← Bool.and_assoc, c5]; simpa using c_62]; rfl))
        · refine wh_iconst (pc := 65) (v := 1) d_Md_readPlace_65 (by decide) ?_
          refine wh_goto (pc := 66) (tgt := 70) d_Md_readPlace_66 (by decide) ?_
          refine wh_istore_n (pc := 70) (ls2 := [_, _, _, _]) d_Md_readPlace_70 rfl (by decide) rfl rfl ?_
          refine wh_iinc (pc := 71) (ls2 := [_, _, _, _]) d_Md_readPlace_71 rfl (nI_inc _) (by decide) rfl rfl ?_
          refine wh_goto (pc := 74) (tgt := 41) d_Md_readPlace_74 (by decide) ?_
          rw [t01] at c_50
          refine wh_eq (ih trivial) ?_ rfl rfl
          rw [ea]
          first
            | (rw [show (false && !(anyN (fun q => decide (T 0 q = (-9))) k || decide (T 0 k = (-9)))) = false by rw [Bool.not_or, ← Bool.and_assoc, c_50]; rfl]; rfl)
            | (have c5 : (false && !anyN (fun q => decide (T 0 q = (-9))) k) = true := by simpa using c_50
               first
                 | (rw [show (false && !(anyN (fun q => decide (T 0 q = (-9))) k || decide (T 0 k = (-9)))) = false by rw [Bool.not_or, ← Bool.and_assoc, c5, c_62]; simp]; rfl)
                 | (rw [show (false && !(anyN (fun q => decide (T 0 q = (-9))) k || decide (T 0 k = (-9)))) = true by rw [Bool.not_or, ← Bool.and_assoc, c5]; simpa using c_62]; rfl))
    · rfl
  have b8 : ¬ gI g 42 3 = gI g 42 2 := by rw [hp, hlg]; exact fun z => e ((nI_eq (by omega) (by omega)).mp z)
  have hin : inF (gI h 43 i - 48).toInt64 0 8 = if fgB (gI h 43 i) 8 then 1 else 0 := by
    have hx : inF (gI h 43 i - 48).toInt64 0 8 = 0 ∨ inF (gI h 43 i - 48).toInt64 0 8 = 1 := by unfold inF; split; exact Or.inl rfl; split; exact Or.inl rfl; exact Or.inr rfl
    rcases fg_em (gI h 43 i) 8 with hf | hf
    · rw [fgB_t hf]; exact hx.elim (fun z => absurd hf (in_fg (b := 8).mp z)) id
    · rw [fgB_f hf]; exact in_fg (b := 8).mpr hf
  have hst : (if fgB (gI h 43 i) 8 then (1 : Int32) else 0) = if fgB (gI h 43 i) 8 && !anyN (fun q => decide (T 0 q = (gI h 43 i - 48))) 0 then 1 else 0 := by rw [show anyN (fun q => decide (T 0 q = (gI h 43 i - 48))) 0 = false from rfl, Bool.not_false, Bool.and_true]
  cases hB : (fgB (gI h 43 i) 8 && !anyN (fun q => decide (T 0 q = (gI h 43 i - 48))) n) with
  | false =>
    have hoff := hB
    have hwhy : i = len ∨ (i < len ∧ ¬ (fg (gI h 43 i) 8 ∧ anyN (fun q => decide (T 0 q = gI h 43 i - 48)) n = false)) := Or.inr ⟨by omega, fun z => by rw [fgB_t z.1, z.2] at hB; exact absurd hB (by decide)⟩
    refine wh_aload_n (pc := 0) d_Md_readPlace_0 rfl rfl ?_
    refine gf_Md_81 (pc := 1) rfl d_Md_readPlace_1 ?_
    refine wh_aload_n (pc := 4) d_Md_readPlace_4 rfl rfl ?_
    refine gf_Md_78 (pc := 5) rfl d_Md_readPlace_5 ?_
    refine wh_icmp_ne (pc := 8) (tgt := 16) d_Md_readPlace_8 (by decide) (fun c_8 => ?_) (fun c_8 => absurd c_8 b8)
    refine wh_aload_n (pc := 16) d_Md_readPlace_16 rfl rfl ?_
    refine gf_Md_7 (pc := 17) rfl d_Md_readPlace_17 ?_
    refine wh_aload_n (pc := 20) d_Md_readPlace_20 rfl rfl ?_
    refine gf_Md_81 (pc := 21) rfl d_Md_readPlace_21 ?_
    rw [hp]
    refine wh_iald (pc := 24) d_Md_readPlace_24 rfl (by first | exact in_nI (by omega) (by omega) | (simp only [a0, a5, a10, a19]; exact in_nI (by omega) (by omega)) | exact vp_in_iff.mpr (by decide)) ?_
    rw [ht]
    refine wh_bipush (pc := 25) (v := 48) d_Md_readPlace_25 (by decide) ?_
    refine wh_isub (pc := 27) d_Md_readPlace_27 ?_
    refine wh_istore_n (pc := 28) (ls2 := [_, _, _, _]) d_Md_readPlace_28 rfl (by decide) rfl rfl ?_
    refine wh_iload_n (pc := 29) d_Md_readPlace_29 rfl rfl ?_
    refine wh_i2l (pc := 30) d_Md_readPlace_30 ?_
    refine wh_lconst (pc := 31) (v := 0) d_Md_readPlace_31 (by decide) ?_
    refine wh_ldc2 (pc := 32) d_Md_readPlace_32 kc_Md_84 ?_
    refine cs_Md_69_d (pc := 35) rfl d_Md_readPlace_35 ⟨⟨by decide, by decide⟩, rfl, rfl⟩ (m_in) (Nat.le_of_ble_eq_true rfl) ?_
    rw [hin]
    refine wh_istore_n (pc := 38) (ls2 := [_, _, _, _]) d_Md_readPlace_38 rfl (by decide) rfl rfl ?_
    refine wh_iconst (pc := 39) (v := 0) d_Md_readPlace_39 (by decide) ?_
    refine wh_istore_n (pc := 40) (ls2 := [_, _, _, _]) d_Md_readPlace_40 rfl (by decide) rfl rfl ?_
    refine wh_eq (wh_loop n (fun k => [some (.ref 42), some (.int (gI h 43 i - 48)), some (.int (if fgB (gI h 43 i) 8 && !anyN (fun q => decide (T 0 q = (gI h 43 i - 48))) k then 1 else 0)), some (.int (nI k))]) (fun _ => g) (fun _ => True) ?_ ?_ 0 (Nat.zero_le _) trivial) ?_ rfl rfl
    · intro _
      refine wh_iload_n (pc := 41) d_Md_readPlace_41 rfl rfl ?_
      refine wh_aload_n (pc := 42) d_Md_readPlace_42 rfl rfl ?_
      refine gf_Md_86 (pc := 43) rfl d_Md_readPlace_43 ?_
      refine wh_icmp_ge (pc := 46) (tgt := 77) d_Md_readPlace_46 (by decide) (fun c_46 => ?_) (fun c_46 => absurd (by rw [hr2]; exact nI_le (Nat.le_refl _) (by omega)) c_46)
      refine wh_aload_n (pc := 77) d_Md_readPlace_77 rfl rfl ?_
      refine wh_dup (pc := 78) d_Md_readPlace_78 rfl ?_
      refine gf_Md_81 (pc := 79) rfl d_Md_readPlace_79 ?_
      refine wh_iload_n (pc := 82) d_Md_readPlace_82 rfl rfl ?_
      refine wh_if_eq (pc := 83) (tgt := 90) d_Md_readPlace_83 (by decide) (fun c_83 => ?_) (fun c_83 => absurd (by rw [hoff]; rfl) c_83)
      refine wh_iconst (pc := 90) (v := 0) d_Md_readPlace_90 (by decide) ?_
      refine wh_iadd (pc := 91) d_Md_readPlace_91 ?_
      rw [show gI g 42 3 + 0 = gI g 42 3 from Int32.add_zero _]
      refine pf_Md_81 (pc := 92) rfl d_Md_readPlace_92 ?_
      rw [sI_id rfl]
      refine wh_iload_n (pc := 95) d_Md_readPlace_95 rfl rfl ?_
      refine wh_if_eq (pc := 96) (tgt := 103) d_Md_readPlace_96 (by decide) (fun c_96 => ?_) (fun c_96 => absurd (by rw [hoff]; rfl) c_96)
      refine wh_bipush (pc := 103) (v := (-9)) d_Md_readPlace_103 (by decide) ?_
      refine wh_iret (pc := 105) d_Md_readPlace_105 rfl ?_
      exact ⟨_, rfl, Or.inl ⟨rfl, rfl, hwhy⟩⟩
    · intro k hk _ ih
      have hk3 : gI g 46 (nI (3 * k)).toNatClampNeg = T 0 k := by rw [cl_nI (by omega)]; exact (hr6 k hk).1
      have ea : anyN (fun q => decide (T 0 q = (gI h 43 i - 48))) (k + 1) = (anyN (fun q => decide (T 0 q = (gI h 43 i - 48))) k || decide (T 0 k = (gI h 43 i - 48))) := rfl
      refine wh_iload_n (pc := 41) d_Md_readPlace_41 rfl rfl ?_
      refine wh_aload_n (pc := 42) d_Md_readPlace_42 rfl rfl ?_
      refine gf_Md_86 (pc := 43) rfl d_Md_readPlace_43 ?_
      refine wh_icmp_ge (pc := 46) (tgt := 77) d_Md_readPlace_46 (by decide) (fun c_46 => absurd c_46 (by rw [hr2]; exact nI_ge hk (by omega))) (fun c_46 => ?_)
      refine wh_iload_n (pc := 49) d_Md_readPlace_49 rfl rfl ?_
      refine wh_if_eq (pc := 50) (tgt := 69) d_Md_readPlace_50 (by decide) (fun c_50 => ?_) (fun c_50 => ?_)
      · refine wh_iconst (pc := 69) (v := 0) d_Md_readPlace_69 (by decide) ?_
        refine wh_istore_n (pc := 70) (ls2 := [_, _, _, _]) d_Md_readPlace_70 rfl (by decide) rfl rfl ?_
        refine wh_iinc (pc := 71) (ls2 := [_, _, _, _]) d_Md_readPlace_71 rfl (nI_inc _) (by decide) rfl rfl ?_
        refine wh_goto (pc := 74) (tgt := 41) d_Md_readPlace_74 (by decide) ?_
        rw [t01] at c_50
        refine wh_eq (ih trivial) ?_ rfl rfl
        rw [ea]
        first
          | (rw [show (fgB (gI h 43 i) 8 && !(anyN (fun q => decide (T 0 q = (gI h 43 i - 48))) k || decide (T 0 k = (gI h 43 i - 48)))) = false by rw [Bool.not_or, ← Bool.and_assoc, c_50]; rfl]; rfl)
          | (have c5 : (fgB (gI h 43 i) 8 && !anyN (fun q => decide (T 0 q = (gI h 43 i - 48))) k) = true := by simpa using c_50
             first
               | (rw [show (fgB (gI h 43 i) 8 && !(anyN (fun q => decide (T 0 q = (gI h 43 i - 48))) k || decide (T 0 k = (gI h 43 i - 48)))) = false by rw [Bool.not_or, ← Bool.and_assoc, c5, c_62]; simp]; rfl)
               | (rw [show (fgB (gI h 43 i) 8 && !(anyN (fun q => decide (T 0 q = (gI h 43 i - 48))) k || decide (T 0 k = (gI h 43 i - 48)))) = true by rw [Bool.not_or, ← Bool.and_assoc, c5]; simpa using c_62]; rfl))
      · refine wh_aload_n (pc := 53) d_Md_readPlace_53 rfl rfl ?_
        refine gf_Md_19 (pc := 54) rfl d_Md_readPlace_54 ?_
        refine wh_iconst (pc := 57) (v := 3) d_Md_readPlace_57 (by decide) ?_
        refine wh_iload_n (pc := 58) d_Md_readPlace_58 rfl rfl ?_
        refine wh_imul (pc := 59) d_Md_readPlace_59 ?_
        rw [show (3 : Int32) * nI k = nI (3 * k) from pk_mul 3 k]
        refine wh_iald (pc := 60) d_Md_readPlace_60 rfl (by first | exact in_nI (by omega) (by omega) | (simp only [a0, a5, a10, a19]; exact in_nI (by omega) (by omega)) | exact vp_in_iff.mpr (by decide)) ?_
        rw [hk3]
        refine wh_iload_n (pc := 61) d_Md_readPlace_61 rfl rfl ?_
        refine wh_icmp_eq (pc := 62) (tgt := 69) d_Md_readPlace_62 (by decide) (fun c_62 => ?_) (fun c_62 => ?_)
        · refine wh_iconst (pc := 69) (v := 0) d_Md_readPlace_69 (by decide) ?_
          refine wh_istore_n (pc := 70) (ls2 := [_, _, _, _]) d_Md_readPlace_70 rfl (by decide) rfl rfl ?_
          refine wh_iinc (pc := 71) (ls2 := [_, _, _, _]) d_Md_readPlace_71 rfl (nI_inc _) (by decide) rfl rfl ?_
          refine wh_goto (pc := 74) (tgt := 41) d_Md_readPlace_74 (by decide) ?_
          rw [t01] at c_50
          refine wh_eq (ih trivial) ?_ rfl rfl
          rw [ea]
          first
            | (rw [show (fgB (gI h 43 i) 8 && !(anyN (fun q => decide (T 0 q = (gI h 43 i - 48))) k || decide (T 0 k = (gI h 43 i - 48)))) = false by rw [Bool.not_or, ← Bool.and_assoc, c_50]; rfl]; rfl)
            | (have c5 : (fgB (gI h 43 i) 8 && !anyN (fun q => decide (T 0 q = (gI h 43 i - 48))) k) = true := by simpa using c_50
               first
                 | (rw [show (fgB (gI h 43 i) 8 && !(anyN (fun q => decide (T 0 q = (gI h 43 i - 48))) k || decide (T 0 k = (gI h 43 i - 48)))) = false by rw [Bool.not_or, ← Bool.and_assoc, c5, c_62]; simp]; rfl)
                 | (rw [show (fgB (gI h 43 i) 8 && !(anyN (fun q => decide (T 0 q = (gI h 43 i - 48))) k || decide (T 0 k = (gI h 43 i - 48)))) = true by rw [Bool.not_or, ← Bool.and_assoc, c5]; simpa using c_62]; rfl))
        · refine wh_iconst (pc := 65) (v := 1) d_Md_readPlace_65 (by decide) ?_
          refine wh_goto (pc := 66) (tgt := 70) d_Md_readPlace_66 (by decide) ?_
          refine wh_istore_n (pc := 70) (ls2 := [_, _, _, _]) d_Md_readPlace_70 rfl (by decide) rfl rfl ?_
          refine wh_iinc (pc := 71) (ls2 := [_, _, _, _]) d_Md_readPlace_71 rfl (nI_inc _) (by decide) rfl rfl ?_
          refine wh_goto (pc := 74) (tgt := 41) d_Md_readPlace_74 (by decide) ?_
          rw [t01] at c_50
          refine wh_eq (ih trivial) ?_ rfl rfl
          rw [ea]
          first
            | (rw [show (fgB (gI h 43 i) 8 && !(anyN (fun q => decide (T 0 q = (gI h 43 i - 48))) k || decide (T 0 k = (gI h 43 i - 48)))) = false by rw [Bool.not_or, ← Bool.and_assoc, c_50]; rfl]; rfl)
            | (have c5 : (fgB (gI h 43 i) 8 && !anyN (fun q => decide (T 0 q = (gI h 43 i - 48))) k) = true := by simpa using c_50
               first
                 | (rw [show (fgB (gI h 43 i) 8 && !(anyN (fun q => decide (T 0 q = (gI h 43 i - 48))) k || decide (T 0 k = (gI h 43 i - 48)))) = false by rw [Bool.not_or, ← Bool.and_assoc, c5, c_62]; simp]; rfl)
                 | (rw [show (fgB (gI h 43 i) 8 && !(anyN (fun q => decide (T 0 q = (gI h 43 i - 48))) k || decide (T 0 k = (gI h 43 i - 48)))) = true by rw [Bool.not_or, ← Bool.and_assoc, c5]; simpa using c_62]; rfl))
    · rw [hst]; rfl
  | true =>
    have hB2 := hB
    simp only [Bool.and_eq_true, Bool.not_eq_true'] at hB2
    have hfg : fg (gI h 43 i) 8 := by
      rcases fg_em (gI h 43 i) 8 with hf | hf
      · exact hf
      · rw [fgB_f hf] at hB2; exact absurd hB2.1 (by decide)
    refine wh_aload_n (pc := 0) d_Md_readPlace_0 rfl rfl ?_
    refine gf_Md_81 (pc := 1) rfl d_Md_readPlace_1 ?_
    refine wh_aload_n (pc := 4) d_Md_readPlace_4 rfl rfl ?_
    refine gf_Md_78 (pc := 5) rfl d_Md_readPlace_5 ?_
    refine wh_icmp_ne (pc := 8) (tgt := 16) d_Md_readPlace_8 (by decide) (fun c_8 => ?_) (fun c_8 => absurd c_8 b8)
    refine wh_aload_n (pc := 16) d_Md_readPlace_16 rfl rfl ?_
    refine gf_Md_7 (pc := 17) rfl d_Md_readPlace_17 ?_
    refine wh_aload_n (pc := 20) d_Md_readPlace_20 rfl rfl ?_
    refine gf_Md_81 (pc := 21) rfl d_Md_readPlace_21 ?_
    rw [hp]
    refine wh_iald (pc := 24) d_Md_readPlace_24 rfl (by first | exact in_nI (by omega) (by omega) | (simp only [a0, a5, a10, a19]; exact in_nI (by omega) (by omega)) | exact vp_in_iff.mpr (by decide)) ?_
    rw [ht]
    refine wh_bipush (pc := 25) (v := 48) d_Md_readPlace_25 (by decide) ?_
    refine wh_isub (pc := 27) d_Md_readPlace_27 ?_
    refine wh_istore_n (pc := 28) (ls2 := [_, _, _, _]) d_Md_readPlace_28 rfl (by decide) rfl rfl ?_
    refine wh_iload_n (pc := 29) d_Md_readPlace_29 rfl rfl ?_
    refine wh_i2l (pc := 30) d_Md_readPlace_30 ?_
    refine wh_lconst (pc := 31) (v := 0) d_Md_readPlace_31 (by decide) ?_
    refine wh_ldc2 (pc := 32) d_Md_readPlace_32 kc_Md_84 ?_
    refine cs_Md_69_d (pc := 35) rfl d_Md_readPlace_35 ⟨⟨by decide, by decide⟩, rfl, rfl⟩ (m_in) (Nat.le_of_ble_eq_true rfl) ?_
    rw [hin]
    refine wh_istore_n (pc := 38) (ls2 := [_, _, _, _]) d_Md_readPlace_38 rfl (by decide) rfl rfl ?_
    refine wh_iconst (pc := 39) (v := 0) d_Md_readPlace_39 (by decide) ?_
    refine wh_istore_n (pc := 40) (ls2 := [_, _, _, _]) d_Md_readPlace_40 rfl (by decide) rfl rfl ?_
    refine wh_eq (wh_loop n (fun k => [some (.ref 42), some (.int (gI h 43 i - 48)), some (.int (if fgB (gI h 43 i) 8 && !anyN (fun q => decide (T 0 q = (gI h 43 i - 48))) k then 1 else 0)), some (.int (nI k))]) (fun _ => g) (fun _ => True) ?_ ?_ 0 (Nat.zero_le _) trivial) ?_ rfl rfl
    · intro _
      refine wh_iload_n (pc := 41) d_Md_readPlace_41 rfl rfl ?_
      refine wh_aload_n (pc := 42) d_Md_readPlace_42 rfl rfl ?_
      refine gf_Md_86 (pc := 43) rfl d_Md_readPlace_43 ?_
      refine wh_icmp_ge (pc := 46) (tgt := 77) d_Md_readPlace_46 (by decide) (fun c_46 => ?_) (fun c_46 => absurd (by rw [hr2]; exact nI_le (Nat.le_refl _) (by omega)) c_46)
      refine wh_aload_n (pc := 77) d_Md_readPlace_77 rfl rfl ?_
      refine wh_dup (pc := 78) d_Md_readPlace_78 rfl ?_
      refine gf_Md_81 (pc := 79) rfl d_Md_readPlace_79 ?_
      refine wh_iload_n (pc := 82) d_Md_readPlace_82 rfl rfl ?_
      refine wh_if_eq (pc := 83) (tgt := 90) d_Md_readPlace_83 (by decide) (fun c_83 => absurd c_83 (by rw [hB]; decide)) (fun c_83 => ?_)
      refine wh_iconst (pc := 86) (v := 1) d_Md_readPlace_86 (by decide) ?_
      refine wh_goto (pc := 87) (tgt := 91) d_Md_readPlace_87 (by decide) ?_
      refine wh_iadd (pc := 91) d_Md_readPlace_91 ?_
      rw [hp, nI_1]
      refine pf_Md_81 (pc := 92) rfl d_Md_readPlace_92 ?_
      refine wh_iload_n (pc := 95) d_Md_readPlace_95 rfl rfl ?_
      refine wh_if_eq (pc := 96) (tgt := 103) d_Md_readPlace_96 (by decide) (fun c_96 => absurd c_96 (by rw [hB]; decide)) (fun c_96 => ?_)
      refine wh_iload_n (pc := 99) d_Md_readPlace_99 rfl rfl ?_
      refine wh_goto (pc := 100) (tgt := 105) d_Md_readPlace_100 (by decide) ?_
      refine wh_iret (pc := 105) d_Md_readPlace_105 rfl ?_
      exact ⟨_, rfl, Or.inr ⟨by omega, hfg, hB2.2, rfl, rfl⟩⟩
    · intro k hk _ ih
      have hk3 : gI g 46 (nI (3 * k)).toNatClampNeg = T 0 k := by rw [cl_nI (by omega)]; exact (hr6 k hk).1
      have ea : anyN (fun q => decide (T 0 q = (gI h 43 i - 48))) (k + 1) = (anyN (fun q => decide (T 0 q = (gI h 43 i - 48))) k || decide (T 0 k = (gI h 43 i - 48))) := rfl
      refine wh_iload_n (pc := 41) d_Md_readPlace_41 rfl rfl ?_
      refine wh_aload_n (pc := 42) d_Md_readPlace_42 rfl rfl ?_
      refine gf_Md_86 (pc := 43) rfl d_Md_readPlace_43 ?_
      refine wh_icmp_ge (pc := 46) (tgt := 77) d_Md_readPlace_46 (by decide) (fun c_46 => absurd c_46 (by rw [hr2]; exact nI_ge hk (by omega))) (fun c_46 => ?_)
      refine wh_iload_n (pc := 49) d_Md_readPlace_49 rfl rfl ?_
      refine wh_if_eq (pc := 50) (tgt := 69) d_Md_readPlace_50 (by decide) (fun c_50 => ?_) (fun c_50 => ?_)
      · refine wh_iconst (pc := 69) (v := 0) d_Md_readPlace_69 (by decide) ?_
        refine wh_istore_n (pc := 70) (ls2 := [_, _, _, _]) d_Md_readPlace_70 rfl (by decide) rfl rfl ?_
        refine wh_iinc (pc := 71) (ls2 := [_, _, _, _]) d_Md_readPlace_71 rfl (nI_inc _) (by decide) rfl rfl ?_
        refine wh_goto (pc := 74) (tgt := 41) d_Md_readPlace_74 (by decide) ?_
        rw [t01] at c_50
        refine wh_eq (ih trivial) ?_ rfl rfl
        rw [ea]
        first
          | (rw [show (fgB (gI h 43 i) 8 && !(anyN (fun q => decide (T 0 q = (gI h 43 i - 48))) k || decide (T 0 k = (gI h 43 i - 48)))) = false by rw [Bool.not_or, ← Bool.and_assoc, c_50]; rfl]; rfl)
          | (have c5 : (fgB (gI h 43 i) 8 && !anyN (fun q => decide (T 0 q = (gI h 43 i - 48))) k) = true := by simpa using c_50
             first
               | (rw [show (fgB (gI h 43 i) 8 && !(anyN (fun q => decide (T 0 q = (gI h 43 i - 48))) k || decide (T 0 k = (gI h 43 i - 48)))) = false by rw [Bool.not_or, ← Bool.and_assoc, c5, c_62]; simp]; rfl)
               | (rw [show (fgB (gI h 43 i) 8 && !(anyN (fun q => decide (T 0 q = (gI h 43 i - 48))) k || decide (T 0 k = (gI h 43 i - 48)))) = true by rw [Bool.not_or, ← Bool.and_assoc, c5]; simpa using c_62]; rfl))
      · refine wh_aload_n (pc := 53) d_Md_readPlace_53 rfl rfl ?_
        refine gf_Md_19 (pc := 54) rfl d_Md_readPlace_54 ?_
        refine wh_iconst (pc := 57) (v := 3) d_Md_readPlace_57 (by decide) ?_
        refine wh_iload_n (pc := 58) d_Md_readPlace_58 rfl rfl ?_
        refine wh_imul (pc := 59) d_Md_readPlace_59 ?_
        rw [show (3 : Int32) * nI k = nI (3 * k) from pk_mul 3 k]
        refine wh_iald (pc := 60) d_Md_readPlace_60 rfl (by first | exact in_nI (by omega) (by omega) | (simp only [a0, a5, a10, a19]; exact in_nI (by omega) (by omega)) | exact vp_in_iff.mpr (by decide)) ?_
        rw [hk3]
        refine wh_iload_n (pc := 61) d_Md_readPlace_61 rfl rfl ?_
        refine wh_icmp_eq (pc := 62) (tgt := 69) d_Md_readPlace_62 (by decide) (fun c_62 => ?_) (fun c_62 => ?_)
        · refine wh_iconst (pc := 69) (v := 0) d_Md_readPlace_69 (by decide) ?_
          refine wh_istore_n (pc := 70) (ls2 := [_, _, _, _]) d_Md_readPlace_70 rfl (by decide) rfl rfl ?_
          refine wh_iinc (pc := 71) (ls2 := [_, _, _, _]) d_Md_readPlace_71 rfl (nI_inc _) (by decide) rfl rfl ?_
          refine wh_goto (pc := 74) (tgt := 41) d_Md_readPlace_74 (by decide) ?_
          rw [t01] at c_50
          refine wh_eq (ih trivial) ?_ rfl rfl
          rw [ea]
          first
            | (rw [show (fgB (gI h 43 i) 8 && !(anyN (fun q => decide (T 0 q = (gI h 43 i - 48))) k || decide (T 0 k = (gI h 43 i - 48)))) = false by rw [Bool.not_or, ← Bool.and_assoc, c_50]; rfl]; rfl)
            | (have c5 : (fgB (gI h 43 i) 8 && !anyN (fun q => decide (T 0 q = (gI h 43 i - 48))) k) = true := by simpa using c_50
               first
                 | (rw [show (fgB (gI h 43 i) 8 && !(anyN (fun q => decide (T 0 q = (gI h 43 i - 48))) k || decide (T 0 k = (gI h 43 i - 48)))) = false by rw [Bool.not_or, ← Bool.and_assoc, c5, c_62]; simp]; rfl)
                 | (rw [show (fgB (gI h 43 i) 8 && !(anyN (fun q => decide (T 0 q = (gI h 43 i - 48))) k || decide (T 0 k = (gI h 43 i - 48)))) = true by rw [Bool.not_or, ← Bool.and_assoc, c5]; simpa using c_62]; rfl))
        · refine wh_iconst (pc := 65) (v := 1) d_Md_readPlace_65 (by decide) ?_
          refine wh_goto (pc := 66) (tgt := 70) d_Md_readPlace_66 (by decide) ?_
          refine wh_istore_n (pc := 70) (ls2 := [_, _, _, _]) d_Md_readPlace_70 rfl (by decide) rfl rfl ?_
          refine wh_iinc (pc := 71) (ls2 := [_, _, _, _]) d_Md_readPlace_71 rfl (nI_inc _) (by decide) rfl rfl ?_
          refine wh_goto (pc := 74) (tgt := 41) d_Md_readPlace_74 (by decide) ?_
          rw [t01] at c_50
          refine wh_eq (ih trivial) ?_ rfl rfl
          rw [ea]
          first
            | (rw [show (fgB (gI h 43 i) 8 && !(anyN (fun q => decide (T 0 q = (gI h 43 i - 48))) k || decide (T 0 k = (gI h 43 i - 48)))) = false by rw [Bool.not_or, ← Bool.and_assoc, c_50]; rfl]; rfl)
            | (have c5 : (fgB (gI h 43 i) 8 && !anyN (fun q => decide (T 0 q = (gI h 43 i - 48))) k) = true := by simpa using c_50
               first
                 | (rw [show (fgB (gI h 43 i) 8 && !(anyN (fun q => decide (T 0 q = (gI h 43 i - 48))) k || decide (T 0 k = (gI h 43 i - 48)))) = false by rw [Bool.not_or, ← Bool.and_assoc, c5, c_62]; simp]; rfl)
                 | (rw [show (fgB (gI h 43 i) 8 && !(anyN (fun q => decide (T 0 q = (gI h 43 i - 48))) k || decide (T 0 k = (gI h 43 i - 48)))) = true by rw [Bool.not_or, ← Bool.and_assoc, c5]; simpa using c_62]; rfl))
    · rw [hst]; rfl

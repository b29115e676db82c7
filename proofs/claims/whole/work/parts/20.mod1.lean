theorem m_in {l : Launch} {D : va_G} {base : Nat} {x a b : Int64} {h : Hp} : SD l D base M_Md_in [.long x, .long a, .long b] h (some (.int (inF x a b))) h := by
  refine SP.of [some (.long x), none, some (.long a), none, some (.long b), none] (by decide) rfl (Nat.le_of_ble_eq_true rfl) ?_
  refine wh_lload_n (pc := 0) d_Md_in_0 rfl rfl ?_
  refine wh_lload_n (pc := 1) d_Md_in_1 rfl rfl ?_
  refine wh_lcmp (pc := 2) d_Md_in_2 ?_
  refine wh_if_lt (pc := 3) (tgt := 17) d_Md_in_3 (by decide) (fun c_3 => ?_) (fun c_3 => ?_)
  · refine wh_iconst (pc := 17) (v := 0) d_Md_in_17 (by decide) ?_
    refine wh_zret (pc := 18) d_Md_in_18 rfl rfl ?_
    refine ⟨rfl, ?_⟩
    unfold inF
    first
      | (rw [if_pos ((lg_lt _ _).mp c_3)]; done)
      | (rw [if_neg (fun q => c_3 ((lg_lt _ _).mpr q)), if_pos ((lg_gt _ _).mp c_10)]; done)
      | (rw [if_neg (fun q => c_3 ((lg_lt _ _).mpr q)), if_neg (fun q => c_10 ((lg_gt _ _).mpr q))]; done)
  · refine wh_lload_n (pc := 6) d_Md_in_6 rfl rfl ?_
    refine wh_lload (pc := 7) d_Md_in_7 rfl ?_
    refine wh_lcmp (pc := 9) d_Md_in_9 ?_
    refine wh_if_gt (pc := 10) (tgt := 17) d_Md_in_10 (by decide) (fun c_10 => ?_) (fun c_10 => ?_)
    · refine wh_iconst (pc := 17) (v := 0) d_Md_in_17 (by decide) ?_
      refine wh_zret (pc := 18) d_Md_in_18 rfl rfl ?_
      refine ⟨rfl, ?_⟩
      unfold inF
      first
        | (rw [if_pos ((lg_lt _ _).mp c_3)]; done)
        | (rw [if_neg (fun q => c_3 ((lg_lt _ _).mpr q)), if_pos ((lg_gt _ _).mp c_10)]; done)
        | (rw [if_neg (fun q => c_3 ((lg_lt _ _).mpr q)), if_neg (fun q => c_10 ((lg_gt _ _).mpr q))]; done)
    · refine wh_iconst (pc := 13) (v := 1) d_Md_in_13 (by decide) ?_
      refine wh_goto (pc := 14) (tgt := 18) d_Md_in_14 (by decide) ?_
      refine wh_zret (pc := 18) d_Md_in_18 rfl rfl ?_
      refine ⟨rfl, ?_⟩
      unfold inF
      first
        | (rw [if_pos ((lg_lt _ _).mp c_3)]; done)
        | (rw [if_neg (fun q => c_3 ((lg_lt _ _).mpr q)), if_pos ((lg_gt _ _).mp c_10)]; done)
        | (rw [if_neg (fun q => c_3 ((lg_lt _ _).mpr q)), if_neg (fun q => c_10 ((lg_gt _ _).mpr q))]; done)
theorem m_has {l : Launch} {D : va_G} {base : Nat} {d : Int32} {k : Nat} {h : Hp} : SD l D base M_Md_has [.int d, .int (nI k)] h (some (.int (if hasB d k then 1 else 0))) h := by
  refine SP.of [some (.int d), some (.int (nI k))] (by decide) rfl (Nat.le_of_ble_eq_true rfl) ?_
  refine wh_iload_n (pc := 0) d_Md_has_0 rfl rfl ?_
  refine wh_iload_n (pc := 1) d_Md_has_1 rfl rfl ?_
  refine wh_ishr (pc := 2) d_Md_has_2 ?_
  refine wh_iconst (pc := 3) (v := 1) d_Md_has_3 (by decide) ?_
  refine wh_iand (pc := 4) d_Md_has_4 ?_
  refine wh_iconst (pc := 5) (v := 1) d_Md_has_5 (by decide) ?_
  refine wh_icmp_ne (pc := 6) (tgt := 13) d_Md_has_6 (by decide) (fun c_6 => ?_) (fun c_6 => ?_)
  · refine wh_iconst (pc := 13) (v := 0) d_Md_has_13 (by decide) ?_
    refine wh_zret (pc := 14) d_Md_has_14 rfl rfl ?_
    refine ⟨rfl, ?_⟩
    first
      | (have hc : hasB d k = true := decide_eq_true c_6; rw [hc]; rfl)
      | (have hc : hasB d k = false := decide_eq_false c_6; rw [hc]; rfl)
  · refine wh_iconst (pc := 9) (v := 1) d_Md_has_9 (by decide) ?_
    refine wh_goto (pc := 10) (tgt := 14) d_Md_has_10 (by decide) ?_
    refine wh_zret (pc := 14) d_Md_has_14 rfl rfl ?_
    refine ⟨rfl, ?_⟩
    first
      | (have hc : hasB d k = true := decide_eq_true c_6; rw [hc]; rfl)
      | (have hc : hasB d k = false := decide_eq_false c_6; rw [hc]; rfl)
theorem m_many {l : Launch} {D : va_G} {base : Nat} {d : Int32} {h : Hp} : SD l D base M_Md_many [.int d] h (some (.int (manyN d 6))) h := by
  refine SP.of [some (.int d), none, none] (by decide) rfl (Nat.le_of_ble_eq_true rfl) ?_
  refine wh_iconst (pc := 0) (v := 0) d_Md_many_0 (by decide) ?_
  refine wh_istore_n (pc := 1) (ls2 := [_, _, _]) d_Md_many_1 rfl (by decide) rfl rfl ?_
  refine wh_iconst (pc := 2) (v := 0) d_Md_many_2 (by decide) ?_
  refine wh_istore_n (pc := 3) (ls2 := [_, _, _]) d_Md_many_3 rfl (by decide) rfl rfl ?_
  refine wh_eq (wh_loop (6) (fun i => [some (.int d), some (.int (manyN d i)), some (.int (nI i))]) (fun i => h) (fun i => True) ?_ ?_ 0 (Nat.zero_le _) trivial) ?_ rfl ?_
  · intro _
    refine wh_iload_n (pc := 4) d_Md_many_4 rfl rfl ?_
    refine wh_bipush (pc := 5) (v := 6) d_Md_many_5 (by decide) ?_
    refine wh_icmp_ge (pc := 7) (tgt := 24) d_Md_many_7 (by decide) (fun c_7 => ?_) (fun c_7 => absurd (by decide) c_7)
    refine wh_iload_n (pc := 24) d_Md_many_24 rfl rfl ?_
    refine wh_iret (pc := 25) d_Md_many_25 rfl ?_
    exact ⟨rfl, rfl⟩
  · intro i hi _ ih
    refine wh_iload_n (pc := 4) d_Md_many_4 rfl rfl ?_
    refine wh_bipush (pc := 5) (v := 6) d_Md_many_5 (by decide) ?_
    refine wh_icmp_ge (pc := 7) (tgt := 24) d_Md_many_7 (by decide) (fun c_7 => absurd c_7 (nI_ge hi (by decide))) (fun c_7 => ?_)
    refine wh_iload_n (pc := 10) d_Md_many_10 rfl rfl ?_
    refine wh_iload_n (pc := 11) d_Md_many_11 rfl rfl ?_
    refine wh_iload_n (pc := 12) d_Md_many_12 rfl rfl ?_
    refine wh_ishr (pc := 13) d_Md_many_13 ?_
    refine wh_iconst (pc := 14) (v := 1) d_Md_many_14 (by decide) ?_
    refine wh_iand (pc := 15) d_Md_many_15 ?_
    refine wh_iadd (pc := 16) d_Md_many_16 ?_
    refine wh_istore_n (pc := 17) (ls2 := [_, _, _]) d_Md_many_17 rfl (by decide) rfl rfl ?_
    refine wh_iinc (pc := 18) (ls2 := [_, _, _]) d_Md_many_18 rfl (nI_inc _) (by decide) rfl rfl ?_
    refine wh_goto (pc := 21) (tgt := 4) d_Md_many_21 (by decide) ?_
    exact ih trivial
  · rfl
  · rfl
theorem m_noW {l : Launch} {D : va_G} {base : Nat} {w : Int32} {h : Hp} {n : Nat} (hn : gI h 42 4 = nI n) (h6 : n ≤ 6) : SD l D base M_Md_noWindow [.ref 42, .int w] h (some (.int (1 - bI w n))) h := by
  refine SP.of [some (.ref 42), some (.int w)] (by decide) rfl (Nat.le_of_ble_eq_true rfl) ?_
  refine wh_iload_n (pc := 0) d_Md_noWindow_0 rfl rfl ?_
  refine wh_i2l (pc := 1) d_Md_noWindow_1 ?_
  refine wh_lconst (pc := 2) (v := 0) d_Md_noWindow_2 (by decide) ?_
  refine wh_aload_n (pc := 3) d_Md_noWindow_3 rfl rfl ?_
  refine gf_Md_66 (pc := 4) rfl d_Md_noWindow_4 ?_
  refine wh_iconst (pc := 7) (v := 1) d_Md_noWindow_7 (by decide) ?_
  refine wh_isub (pc := 8) d_Md_noWindow_8 ?_
  refine wh_i2l (pc := 9) d_Md_noWindow_9 ?_
  refine cs_Md_69_d (pc := 10) rfl d_Md_noWindow_10 ⟨⟨by decide, by decide⟩, rfl, rfl⟩ (m_in) (Nat.le_of_ble_eq_true rfl) ?_
  refine wh_if_ne (pc := 13) (tgt := 20) d_Md_noWindow_13 (by decide) (fun c_13 => ?_) (fun c_13 => ?_)
  · refine wh_iconst (pc := 20) (v := 0) d_Md_noWindow_20 (by decide) ?_
    refine wh_zret (pc := 21) d_Md_noWindow_21 rfl rfl ?_
    refine ⟨rfl, ?_⟩
    rw [hn, in_bI w h6] at c_13
    rcases bI_two (w := w) (n := n) (by omega) with q | ⟨k, hk, rfl⟩
    · first | (rw [q]; rfl) | (exact absurd q c_13)
    · rw [bI_in hk (by omega)] at c_13 ⊢; first | rfl | exact absurd c_13 (by decide)
  · refine wh_iconst (pc := 16) (v := 1) d_Md_noWindow_16 (by decide) ?_
    refine wh_goto (pc := 17) (tgt := 21) d_Md_noWindow_17 (by decide) ?_
    refine wh_zret (pc := 21) d_Md_noWindow_21 rfl rfl ?_
    refine ⟨rfl, ?_⟩
    rw [hn, in_bI w h6] at c_13
    rcases bI_two (w := w) (n := n) (by omega) with q | ⟨k, hk, rfl⟩
    · first | (rw [q]; rfl) | (exact absurd q c_13)
    · rw [bI_in hk (by omega)] at c_13 ⊢; first | rfl | exact absurd c_13 (by decide)
theorem m_noM {l : Launch} {D : va_G} {base : Nat} {w : Int32} {h : Hp} {n : Nat} (hn : gI h 42 6 = nI n) (h6 : n ≤ 6) : SD l D base M_Md_noMoth [.ref 42, .int w] h (some (.int (1 - bI w n))) h := by
  refine SP.of [some (.ref 42), some (.int w)] (by decide) rfl (Nat.le_of_ble_eq_true rfl) ?_
  refine wh_iload_n (pc := 0) d_Md_noMoth_0 rfl rfl ?_
  refine wh_i2l (pc := 1) d_Md_noMoth_1 ?_
  refine wh_lconst (pc := 2) (v := 0) d_Md_noMoth_2 (by decide) ?_
  refine wh_aload_n (pc := 3) d_Md_noMoth_3 rfl rfl ?_
  refine gf_Md_73 (pc := 4) rfl d_Md_noMoth_4 ?_
  refine wh_iconst (pc := 7) (v := 1) d_Md_noMoth_7 (by decide) ?_
  refine wh_isub (pc := 8) d_Md_noMoth_8 ?_
  refine wh_i2l (pc := 9) d_Md_noMoth_9 ?_
  refine cs_Md_69_d (pc := 10) rfl d_Md_noMoth_10 ⟨⟨by decide, by decide⟩, rfl, rfl⟩ (m_in) (Nat.le_of_ble_eq_true rfl) ?_
  refine wh_if_ne (pc := 13) (tgt := 20) d_Md_noMoth_13 (by decide) (fun c_13 => ?_) (fun c_13 => ?_)
  · refine wh_iconst (pc := 20) (v := 0) d_Md_noMoth_20 (by decide) ?_
    refine wh_zret (pc := 21) d_Md_noMoth_21 rfl rfl ?_
    refine ⟨rfl, ?_⟩
    rw [hn, in_bI w h6] at c_13
    rcases bI_two (w := w) (n := n) (by omega) with q | ⟨k, hk, rfl⟩
    · first | (rw [q]; rfl) | (exact absurd q c_13)
    · rw [bI_in hk (by omega)] at c_13 ⊢; first | rfl | exact absurd c_13 (by decide)
  · refine wh_iconst (pc := 16) (v := 1) d_Md_noMoth_16 (by decide) ?_
    refine wh_goto (pc := 17) (tgt := 21) d_Md_noMoth_17 (by decide) ?_
    refine wh_zret (pc := 21) d_Md_noMoth_21 rfl rfl ?_
    refine ⟨rfl, ?_⟩
    rw [hn, in_bI w h6] at c_13
    rcases bI_two (w := w) (n := n) (by omega) with q | ⟨k, hk, rfl⟩
    · first | (rw [q]; rfl) | (exact absurd q c_13)
    · rw [bI_in hk (by omega)] at c_13 ⊢; first | rfl | exact absurd c_13 (by decide)
theorem m_power {l : Launch} {D : va_G} {base : Nat} {x : Int32} {k : Nat} (hk : k < 2 ^ 30) {h : Hp} : SD l D base M_Md_power [.int x, .int (nI k)] h (some (.int (powN x k))) h := by
  refine SP.of [some (.int x), some (.int (nI k)), none, none] (by decide) rfl (Nat.le_of_ble_eq_true rfl) ?_
  refine wh_iconst (pc := 0) (v := 1) d_Md_power_0 (by decide) ?_
  refine wh_istore_n (pc := 1) (ls2 := [_, _, _, _]) d_Md_power_1 rfl (by decide) rfl rfl ?_
  refine wh_iconst (pc := 2) (v := 0) d_Md_power_2 (by decide) ?_
  refine wh_istore_n (pc := 3) (ls2 := [_, _, _, _]) d_Md_power_3 rfl (by decide) rfl rfl ?_
  refine wh_eq (wh_loop (k) (fun i => [some (.int x), some (.int (nI k)), some (.int (powN x i)), some (.int (nI i))]) (fun i => h) (fun i => True) ?_ ?_ 0 (Nat.zero_le _) trivial) ?_ rfl ?_
  · intro _
    refine wh_iload_n (pc := 4) d_Md_power_4 rfl rfl ?_
    refine wh_iload_n (pc := 5) d_Md_power_5 rfl rfl ?_
    refine wh_icmp_ge (pc := 6) (tgt := 19) d_Md_power_6 (by decide) (fun c_6 => ?_) (fun c_6 => absurd (nI_le (Nat.le_refl _) (by omega)) c_6)
    refine wh_iload_n (pc := 19) d_Md_power_19 rfl rfl ?_
    refine wh_iret (pc := 20) d_Md_power_20 rfl ?_
    exact ⟨rfl, rfl⟩
  · intro i hi _ ih
    refine wh_iload_n (pc := 4) d_Md_power_4 rfl rfl ?_
    refine wh_iload_n (pc := 5) d_Md_power_5 rfl rfl ?_
    refine wh_icmp_ge (pc := 6) (tgt := 19) d_Md_power_6 (by decide) (fun c_6 => absurd c_6 (nI_ge hi (by omega))) (fun c_6 => ?_)
    refine wh_iload_n (pc := 9) d_Md_power_9 rfl rfl ?_
    refine wh_iload_n (pc := 10) d_Md_power_10 rfl rfl ?_
    refine wh_imul (pc := 11) d_Md_power_11 ?_
    refine wh_istore_n (pc := 12) (ls2 := [_, _, _, _]) d_Md_power_12 rfl (by decide) rfl rfl ?_
    refine wh_iinc (pc := 13) (ls2 := [_, _, _, _]) d_Md_power_13 rfl (nI_inc _) (by decide) rfl rfl ?_
    refine wh_goto (pc := 16) (tgt := 4) d_Md_power_16 (by decide) ?_
    exact ih trivial
  · rfl
  · rfl
theorem m_ways {l : Launch} {D : va_G} {base : Nat} {n : Nat} (hn : n < 2 ^ 20) {h : Hp} : SD l D base M_Md_ways [.int (nI n)] h (some (.int (facN n))) h := by
  refine SP.of [some (.int (nI n)), none, none] (by decide) rfl (Nat.le_of_ble_eq_true rfl) ?_
  by_cases h2 : n < 2
  · refine wh_iconst (pc := 0) (v := 1) d_Md_ways_0 (by decide) ?_
    refine wh_istore_n (pc := 1) (ls2 := [_, _, _]) d_Md_ways_1 rfl (by decide) rfl rfl ?_
    refine wh_iconst (pc := 2) (v := 2) d_Md_ways_2 (by decide) ?_
    refine wh_istore_n (pc := 3) (ls2 := [_, _, _]) d_Md_ways_3 rfl (by decide) rfl rfl ?_
    refine wh_iload_n (pc := 4) d_Md_ways_4 rfl rfl ?_
    refine wh_iload_n (pc := 5) d_Md_ways_5 rfl rfl ?_
    refine wh_icmp_gt (pc := 6) (tgt := 19) d_Md_ways_6 (by decide) (fun c_6 => ?_) (fun c_6 => absurd (by rw [i_lt, nI_toInt (by omega)]; show _ < (2 : Int); omega) c_6)
    refine wh_iload_n (pc := 19) d_Md_ways_19 rfl rfl ?_
    refine wh_iret (pc := 20) d_Md_ways_20 rfl ?_
    refine ⟨rfl, ?_⟩
    rcases (show n = 0 ∨ n = 1 by omega) with rfl | rfl <;> rfl
  · refine wh_iconst (pc := 0) (v := 1) d_Md_ways_0 (by decide) ?_
    refine wh_istore_n (pc := 1) (ls2 := [_, _, _]) d_Md_ways_1 rfl (by decide) rfl rfl ?_
    refine wh_iconst (pc := 2) (v := 2) d_Md_ways_2 (by decide) ?_
    refine wh_istore_n (pc := 3) (ls2 := [_, _, _]) d_Md_ways_3 rfl (by decide) rfl rfl ?_
    refine wh_eq (wh_loop (n - 1) (fun i => [some (.int (nI n)), some (.int (facN (i + 1))), some (.int (nI (i + 2)))]) (fun _ => h) (fun _ => True) ?_ ?_ 0 (Nat.zero_le _) trivial) ?_ rfl ?_
    · intro _
      refine wh_iload_n (pc := 4) d_Md_ways_4 rfl rfl ?_
      refine wh_iload_n (pc := 5) d_Md_ways_5 rfl rfl ?_
      refine wh_icmp_gt (pc := 6) (tgt := 19) d_Md_ways_6 (by decide) (fun c_6 => ?_) (fun c_6 => absurd (by rw [show n - 1 + 2 = n + 1 by omega]; exact nI_lt (by omega) (by omega)) c_6)
      refine wh_iload_n (pc := 19) d_Md_ways_19 rfl rfl ?_
      refine wh_iret (pc := 20) d_Md_ways_20 rfl ?_
      refine ⟨rfl, ?_⟩
      rw [show n - 1 + 1 = n by omega]
    · intro i hi _ ih
      refine wh_iload_n (pc := 4) d_Md_ways_4 rfl rfl ?_
      refine wh_iload_n (pc := 5) d_Md_ways_5 rfl rfl ?_
      refine wh_icmp_gt (pc := 6) (tgt := 19) d_Md_ways_6 (by decide) (fun c_6 => absurd c_6 (nI_nlt (by omega) (by omega))) (fun c_6 => ?_)
      refine wh_iload_n (pc := 9) d_Md_ways_9 rfl rfl ?_
      refine wh_iload_n (pc := 10) d_Md_ways_10 rfl rfl ?_
      refine wh_imul (pc := 11) d_Md_ways_11 ?_
      refine wh_istore_n (pc := 12) (ls2 := [_, _, _]) d_Md_ways_12 rfl (by decide) rfl rfl ?_
      refine wh_iinc (pc := 13) (ls2 := [_, _, _]) d_Md_ways_13 rfl (nI_inc _) (by decide) rfl rfl ?_
      refine wh_goto (pc := 16) (tgt := 4) d_Md_ways_16 (by decide) ?_
      exact ih trivial
    · rfl
    · rfl

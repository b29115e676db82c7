theorem s_cmp {l : Launch} {D : va_G} {base : Nat} {x y : Int32} {h : Hp} : SD l D base M_Ji_compare [.int x, .int y] h (some (.int (cmpI x y))) h := by
  refine SP.of [some (.int x), some (.int y)] (by decide) rfl (Nat.le_of_ble_eq_true rfl) ?_
  refine wh_iload_n (pc := 0) d_Ji_compare_0 rfl rfl ?_
  refine wh_iload_n (pc := 1) d_Ji_compare_1 rfl rfl ?_
  refine wh_icmp_ge (pc := 2) (tgt := 9) d_Ji_compare_2 (by decide) (fun c_2 => ?_) (fun c_2 => ?_)
  · refine wh_iload_n (pc := 9) d_Ji_compare_9 rfl rfl ?_
    refine wh_iload_n (pc := 10) d_Ji_compare_10 rfl rfl ?_
    refine wh_icmp_ne (pc := 11) (tgt := 18) d_Ji_compare_11 (by decide) (fun c_11 => ?_) (fun c_11 => ?_)
    · refine wh_iconst (pc := 18) (v := 1) d_Ji_compare_18 (by decide) ?_
      refine wh_iret (pc := 19) d_Ji_compare_19 rfl ?_
      exact ⟨rfl, by simp [cmpI, *]⟩
    · refine wh_iconst (pc := 14) (v := 0) d_Ji_compare_14 (by decide) ?_
      refine wh_goto (pc := 15) (tgt := 19) d_Ji_compare_15 (by decide) ?_
      refine wh_iret (pc := 19) d_Ji_compare_19 rfl ?_
      exact ⟨rfl, by simp [cmpI, *]⟩
  · refine wh_iconst (pc := 5) (v := (-1)) d_Ji_compare_5 (by decide) ?_
    refine wh_goto (pc := 6) (tgt := 19) d_Ji_compare_6 (by decide) ?_
    refine wh_iret (pc := 19) d_Ji_compare_19 rfl ?_
    exact ⟨rfl, by simp [cmpI, *]⟩
theorem s_bitC {l : Launch} {D : va_G} {base : Nat} {x : Int32} {h : Hp} : SD l D base M_Ji_bitCount [.int x] h (some (.int (bitC x))) h := by
  refine SP.of [some (.int x)] (by decide) rfl (Nat.le_of_ble_eq_true rfl) ?_
  refine wh_iload_n (pc := 0) d_Ji_bitCount_0 rfl rfl ?_
  refine wh_iload_n (pc := 1) d_Ji_bitCount_1 rfl rfl ?_
  refine wh_iconst (pc := 2) (v := 1) d_Ji_bitCount_2 (by decide) ?_
  refine wh_iushr (pc := 3) d_Ji_bitCount_3 ?_
  refine wh_ldcw (pc := 4) d_Ji_bitCount_4 kc_Ji_265 ?_
  refine wh_iand (pc := 7) d_Ji_bitCount_7 ?_
  refine wh_isub (pc := 8) d_Ji_bitCount_8 ?_
  refine wh_istore_n (pc := 9) (ls2 := [_]) d_Ji_bitCount_9 rfl (by decide) rfl rfl ?_
  refine wh_iload_n (pc := 10) d_Ji_bitCount_10 rfl rfl ?_
  refine wh_ldcw (pc := 11) d_Ji_bitCount_11 kc_Ji_266 ?_
  refine wh_iand (pc := 14) d_Ji_bitCount_14 ?_
  refine wh_iload_n (pc := 15) d_Ji_bitCount_15 rfl rfl ?_
  refine wh_iconst (pc := 16) (v := 2) d_Ji_bitCount_16 (by decide) ?_
  refine wh_iushr (pc := 17) d_Ji_bitCount_17 ?_
  refine wh_ldcw (pc := 18) d_Ji_bitCount_18 kc_Ji_266 ?_
  refine wh_iand (pc := 21) d_Ji_bitCount_21 ?_
  refine wh_iadd (pc := 22) d_Ji_bitCount_22 ?_
  refine wh_istore_n (pc := 23) (ls2 := [_]) d_Ji_bitCount_23 rfl (by decide) rfl rfl ?_
  refine wh_iload_n (pc := 24) d_Ji_bitCount_24 rfl rfl ?_
  refine wh_iload_n (pc := 25) d_Ji_bitCount_25 rfl rfl ?_
  refine wh_iconst (pc := 26) (v := 4) d_Ji_bitCount_26 (by decide) ?_
  refine wh_iushr (pc := 27) d_Ji_bitCount_27 ?_
  refine wh_iadd (pc := 28) d_Ji_bitCount_28 ?_
  refine wh_ldcw (pc := 29) d_Ji_bitCount_29 kc_Ji_267 ?_
  refine wh_iand (pc := 32) d_Ji_bitCount_32 ?_
  refine wh_istore_n (pc := 33) (ls2 := [_]) d_Ji_bitCount_33 rfl (by decide) rfl rfl ?_
  refine wh_iload_n (pc := 34) d_Ji_bitCount_34 rfl rfl ?_
  refine wh_iload_n (pc := 35) d_Ji_bitCount_35 rfl rfl ?_
  refine wh_bipush (pc := 36) (v := 8) d_Ji_bitCount_36 (by decide) ?_
  refine wh_iushr (pc := 38) d_Ji_bitCount_38 ?_
  refine wh_iadd (pc := 39) d_Ji_bitCount_39 ?_
  refine wh_istore_n (pc := 40) (ls2 := [_]) d_Ji_bitCount_40 rfl (by decide) rfl rfl ?_
  refine wh_iload_n (pc := 41) d_Ji_bitCount_41 rfl rfl ?_
  refine wh_iload_n (pc := 42) d_Ji_bitCount_42 rfl rfl ?_
  refine wh_bipush (pc := 43) (v := 16) d_Ji_bitCount_43 (by decide) ?_
  refine wh_iushr (pc := 45) d_Ji_bitCount_45 ?_
  refine wh_iadd (pc := 46) d_Ji_bitCount_46 ?_
  refine wh_istore_n (pc := 47) (ls2 := [_]) d_Ji_bitCount_47 rfl (by decide) rfl rfl ?_
  refine wh_iload_n (pc := 48) d_Ji_bitCount_48 rfl rfl ?_
  refine wh_bipush (pc := 49) (v := 63) d_Ji_bitCount_49 (by decide) ?_
  refine wh_iand (pc := 51) d_Ji_bitCount_51 ?_
  refine wh_iret (pc := 52) d_Ji_bitCount_52 rfl ?_
  exact ⟨rfl, rfl⟩
theorem s_ntz {l : Launch} {D : va_G} {base : Nat} {x : Int32} {h : Hp} : SD l D base M_Ji_numberOfTrailingZeros [.int x] h (some (.int (ntzF x))) h := by
  refine SP.of [some (.int x), none] (by decide) rfl (Nat.le_of_ble_eq_true rfl) ?_
  refine wh_iload_n (pc := 0) d_Ji_numberOfTrailingZeros_0 rfl rfl ?_
  refine wh_iconst (pc := 1) (v := (-1)) d_Ji_numberOfTrailingZeros_1 (by decide) ?_
  refine wh_ixor (pc := 2) d_Ji_numberOfTrailingZeros_2 ?_
  refine wh_iload_n (pc := 3) d_Ji_numberOfTrailingZeros_3 rfl rfl ?_
  refine wh_iconst (pc := 4) (v := 1) d_Ji_numberOfTrailingZeros_4 (by decide) ?_
  refine wh_isub (pc := 5) d_Ji_numberOfTrailingZeros_5 ?_
  refine wh_iand (pc := 6) d_Ji_numberOfTrailingZeros_6 ?_
  refine wh_istore_n (pc := 7) (ls2 := [_, _]) d_Ji_numberOfTrailingZeros_7 rfl (by decide) rfl rfl ?_
  refine wh_iload_n (pc := 8) d_Ji_numberOfTrailingZeros_8 rfl rfl ?_
  refine wh_if_gt (pc := 9) (tgt := 17) d_Ji_numberOfTrailingZeros_9 (by decide) (fun c_9 => ?_) (fun c_9 => ?_)
  · refine wh_iconst (pc := 17) (v := 1) d_Ji_numberOfTrailingZeros_17 (by decide) ?_
    refine wh_istore_n (pc := 18) (ls2 := [_, _]) d_Ji_numberOfTrailingZeros_18 rfl (by decide) rfl rfl ?_
    refine wh_iload_n (pc := 19) d_Ji_numberOfTrailingZeros_19 rfl rfl ?_
    refine wh_ldcw (pc := 20) d_Ji_numberOfTrailingZeros_20 kc_Ji_264 ?_
    refine wh_icmp_le (pc := 23) (tgt := 34) d_Ji_numberOfTrailingZeros_23 (by decide) (fun c_23 => ?_) (fun c_23 => ?_)
    · refine wh_iload_n (pc := 34) d_Ji_numberOfTrailingZeros_34 rfl rfl ?_
      refine wh_sipush (pc := 35) (v := 256) d_Ji_numberOfTrailingZeros_35 (by decide) ?_
      refine wh_icmp_le (pc := 38) (tgt := 49) d_Ji_numberOfTrailingZeros_38 (by decide) (fun c_38 => ?_) (fun c_38 => ?_)
      · refine wh_iload_n (pc := 49) d_Ji_numberOfTrailingZeros_49 rfl rfl ?_
        refine wh_bipush (pc := 50) (v := 16) d_Ji_numberOfTrailingZeros_50 (by decide) ?_
        refine wh_icmp_le (pc := 52) (tgt := 62) d_Ji_numberOfTrailingZeros_52 (by decide) (fun c_52 => ?_) (fun c_52 => ?_)
        · refine wh_iload_n (pc := 62) d_Ji_numberOfTrailingZeros_62 rfl rfl ?_
          refine wh_iconst (pc := 63) (v := 4) d_Ji_numberOfTrailingZeros_63 (by decide) ?_
          refine wh_icmp_le (pc := 64) (tgt := 74) d_Ji_numberOfTrailingZeros_64 (by decide) (fun c_64 => ?_) (fun c_64 => ?_)
          · refine wh_iload_n (pc := 74) d_Ji_numberOfTrailingZeros_74 rfl rfl ?_
            refine wh_iload_n (pc := 75) d_Ji_numberOfTrailingZeros_75 rfl rfl ?_
            refine wh_iconst (pc := 76) (v := 1) d_Ji_numberOfTrailingZeros_76 (by decide) ?_
            refine wh_iushr (pc := 77) d_Ji_numberOfTrailingZeros_77 ?_
            refine wh_iadd (pc := 78) d_Ji_numberOfTrailingZeros_78 ?_
            refine wh_iret (pc := 79) d_Ji_numberOfTrailingZeros_79 rfl ?_
            refine ⟨rfl, ?_⟩
            simp only [ntzF]
            rw [if_pos c_9]
            simp only [ntzE, ntzD, ntzC, ntzB, ntzA, ushr]
            simp only [c_23, c_38, c_52, c_64, if_true, if_false]
            try rfl
          · refine wh_iinc (pc := 67) (ls2 := [_, _]) d_Ji_numberOfTrailingZeros_67 rfl rfl (by decide) rfl rfl ?_
            refine wh_iload_n (pc := 70) d_Ji_numberOfTrailingZeros_70 rfl rfl ?_
            refine wh_iconst (pc := 71) (v := 2) d_Ji_numberOfTrailingZeros_71 (by decide) ?_
            refine wh_iushr (pc := 72) d_Ji_numberOfTrailingZeros_72 ?_
            refine wh_istore_n (pc := 73) (ls2 := [_, _]) d_Ji_numberOfTrailingZeros_73 rfl (by decide) rfl rfl ?_
            refine wh_iload_n (pc := 74) d_Ji_numberOfTrailingZeros_74 rfl rfl ?_
            refine wh_iload_n (pc := 75) d_Ji_numberOfTrailingZeros_75 rfl rfl ?_
            refine wh_iconst (pc := 76) (v := 1) d_Ji_numberOfTrailingZeros_76 (by decide) ?_
            refine wh_iushr (pc := 77) d_Ji_numberOfTrailingZeros_77 ?_
            refine wh_iadd (pc := 78) d_Ji_numberOfTrailingZeros_78 ?_
            refine wh_iret (pc := 79) d_Ji_numberOfTrailingZeros_79 rfl ?_
            refine ⟨rfl, ?_⟩
            simp only [ntzF]
            rw [if_pos c_9]
            simp only [ntzE, ntzD, ntzC, ntzB, ntzA, ushr]
            simp only [c_23, c_38, c_52, c_64, if_true, if_false]
            try rfl
        · refine wh_iinc (pc := 55) (ls2 := [_, _]) d_Ji_numberOfTrailingZeros_55 rfl rfl (by decide) rfl rfl ?_
          refine wh_iload_n (pc := 58) d_Ji_numberOfTrailingZeros_58 rfl rfl ?_
          refine wh_iconst (pc := 59) (v := 4) d_Ji_numberOfTrailingZeros_59 (by decide) ?_
          refine wh_iushr (pc := 60) d_Ji_numberOfTrailingZeros_60 ?_
          refine wh_istore_n (pc := 61) (ls2 := [_, _]) d_Ji_numberOfTrailingZeros_61 rfl (by decide) rfl rfl ?_
          refine wh_iload_n (pc := 62) d_Ji_numberOfTrailingZeros_62 rfl rfl ?_
          refine wh_iconst (pc := 63) (v := 4) d_Ji_numberOfTrailingZeros_63 (by decide) ?_
          refine wh_icmp_le (pc := 64) (tgt := 74) d_Ji_numberOfTrailingZeros_64 (by decide) (fun c_64 => ?_) (fun c_64 => ?_)
          · refine wh_iload_n (pc := 74) d_Ji_numberOfTrailingZeros_74 rfl rfl ?_
            refine wh_iload_n (pc := 75) d_Ji_numberOfTrailingZeros_75 rfl rfl ?_
            refine wh_iconst (pc := 76) (v := 1) d_Ji_numberOfTrailingZeros_76 (by decide) ?_
            refine wh_iushr (pc := 77) d_Ji_numberOfTrailingZeros_77 ?_
            refine wh_iadd (pc := 78) d_Ji_numberOfTrailingZeros_78 ?_
            refine wh_iret (pc := 79) d_Ji_numberOfTrailingZeros_79 rfl ?_
            refine ⟨rfl, ?_⟩
            simp only [ntzF]
            rw [if_pos c_9]
            simp only [ntzE, ntzD, ntzC, ntzB, ntzA, ushr]
            simp only [c_23, c_38, c_52, c_64, if_true, if_false]
            try rfl
          · refine wh_iinc (pc := 67) (ls2 := [_, _]) d_Ji_numberOfTrailingZeros_67 rfl rfl (by decide) rfl rfl ?_
            refine wh_iload_n (pc := 70) d_Ji_numberOfTrailingZeros_70 rfl rfl ?_
            refine wh_iconst (pc := 71) (v := 2) d_Ji_numberOfTrailingZeros_71 (by decide) ?_
            refine wh_iushr (pc := 72) d_Ji_numberOfTrailingZeros_72 ?_
            refine wh_istore_n (pc := 73) (ls2 := [_, _]) d_Ji_numberOfTrailingZeros_73 rfl (by decide) rfl rfl ?_
            refine wh_iload_n (pc := 74) d_Ji_numberOfTrailingZeros_74 rfl rfl ?_
            refine wh_iload_n (pc := 75) d_Ji_numberOfTrailingZeros_75 rfl rfl ?_
            refine wh_iconst (pc := 76) (v := 1) d_Ji_numberOfTrailingZeros_76 (by decide) ?_
            refine wh_iushr (pc := 77) d_Ji_numberOfTrailingZeros_77 ?_
            refine wh_iadd (pc := 78) d_Ji_numberOfTrailingZeros_78 ?_
            refine wh_iret (pc := 79) d_Ji_numberOfTrailingZeros_79 rfl ?_
            refine ⟨rfl, ?_⟩
            simp only [ntzF]
            rw [if_pos c_9]
            simp only [ntzE, ntzD, ntzC, ntzB, ntzA, ushr]
            simp only [c_23, c_38, c_52, c_64, if_true, if_false]
            try rfl
      · refine wh_iinc (pc := 41) (ls2 := [_, _]) d_Ji_numberOfTrailingZeros_41 rfl rfl (by decide) rfl rfl ?_
        refine wh_iload_n (pc := 44) d_Ji_numberOfTrailingZeros_44 rfl rfl ?_
        refine wh_bipush (pc := 45) (v := 8) d_Ji_numberOfTrailingZeros_45 (by decide) ?_
        refine wh_iushr (pc := 47) d_Ji_numberOfTrailingZeros_47 ?_
        refine wh_istore_n (pc := 48) (ls2 := [_, _]) d_Ji_numberOfTrailingZeros_48 rfl (by decide) rfl rfl ?_
        refine wh_iload_n (pc := 49) d_Ji_numberOfTrailingZeros_49 rfl rfl ?_
        refine wh_bipush (pc := 50) (v := 16) d_Ji_numberOfTrailingZeros_50 (by decide) ?_
        refine wh_icmp_le (pc := 52) (tgt := 62) d_Ji_numberOfTrailingZeros_52 (by decide) (fun c_52 => ?_) (fun c_52 => ?_)
        · refine wh_iload_n (pc := 62) d_Ji_numberOfTrailingZeros_62 rfl rfl ?_
          refine wh_iconst (pc := 63) (v := 4) d_Ji_numberOfTrailingZeros_63 (by decide) ?_
          refine wh_icmp_le (pc := 64) (tgt := 74) d_Ji_numberOfTrailingZeros_64 (by decide) (fun c_64 => ?_) (fun c_64 => ?_)
          · refine wh_iload_n (pc := 74) d_Ji_numberOfTrailingZeros_74 rfl rfl ?_
            refine wh_iload_n (pc := 75) d_Ji_numberOfTrailingZeros_75 rfl rfl ?_
            refine wh_iconst (pc := 76) (v := 1) d_Ji_numberOfTrailingZeros_76 (by decide) ?_
            refine wh_iushr (pc := 77) d_Ji_numberOfTrailingZeros_77 ?_
            refine wh_iadd (pc := 78) d_Ji_numberOfTrailingZeros_78 ?_
            refine wh_iret (pc := 79) d_Ji_numberOfTrailingZeros_79 rfl ?_
            refine ⟨rfl, ?_⟩
            simp only [ntzF]
            rw [if_pos c_9]
            simp only [ntzE, ntzD, ntzC, ntzB, ntzA, ushr]
            simp only [c_23, c_38, c_52, c_64, if_true, if_false]
            try rfl
          · refine wh_iinc (pc := 67) (ls2 := [_, _]) d_Ji_numberOfTrailingZeros_67 rfl rfl (by decide) rfl rfl ?_
            refine wh_iload_n (pc := 70) d_Ji_numberOfTrailingZeros_70 rfl rfl ?_
            refine wh_iconst (pc := 71) (v := 2) d_Ji_numberOfTrailingZeros_71 (by decide) ?_
            refine wh_iushr (pc := 72) d_Ji_numberOfTrailingZeros_72 ?_
            refine wh_istore_n (pc := 73) (ls2 := [_, _]) d_Ji_numberOfTrailingZeros_73 rfl (by decide) rfl rfl ?_
            refine wh_iload_n (pc := 74) d_Ji_numberOfTrailingZeros_74 rfl rfl ?_
            refine wh_iload_n (pc := 75) d_Ji_numberOfTrailingZeros_75 rfl rfl ?_
            refine wh_iconst (pc := 76) (v := 1) d_Ji_numberOfTrailingZeros_76 (by decide) ?_
            refine wh_iushr (pc := 77) d_Ji_numberOfTrailingZeros_77 ?_
            refine wh_iadd (pc := 78) d_Ji_numberOfTrailingZeros_78 ?_
            refine wh_iret (pc := 79) d_Ji_numberOfTrailingZeros_79 rfl ?_
            refine ⟨rfl, ?_⟩
            simp only [ntzF]
            rw [if_pos c_9]
            simp only [ntzE, ntzD, ntzC, ntzB, ntzA, ushr]
            simp only [c_23, c_38, c_52, c_64, if_true, if_false]
            try rfl
        · refine wh_iinc (pc := 55) (ls2 := [_, _]) d_Ji_numberOfTrailingZeros_55 rfl rfl (by decide) rfl rfl ?_
          refine wh_iload_n (pc := 58) d_Ji_numberOfTrailingZeros_58 rfl rfl ?_
          refine wh_iconst (pc := 59) (v := 4) d_Ji_numberOfTrailingZeros_59 (by decide) ?_
          refine wh_iushr (pc := 60) d_Ji_numberOfTrailingZeros_60 ?_
          refine wh_istore_n (pc := 61) (ls2 := [_, _]) d_Ji_numberOfTrailingZeros_61 rfl (by decide) rfl rfl ?_
          refine wh_iload_n (pc := 62) d_Ji_numberOfTrailingZeros_62 rfl rfl ?_
          refine wh_iconst (pc := 63) (v := 4) d_Ji_numberOfTrailingZeros_63 (by decide) ?_
          refine wh_icmp_le (pc := 64) (tgt := 74) d_Ji_numberOfTrailingZeros_64 (by decide) (fun c_64 => ?_) (fun c_64 => ?_)
          · refine wh_iload_n (pc := 74) d_Ji_numberOfTrailingZeros_74 rfl rfl ?_
            refine wh_iload_n (pc := 75) d_Ji_numberOfTrailingZeros_75 rfl rfl ?_
            refine wh_iconst (pc := 76) (v := 1) d_Ji_numberOfTrailingZeros_76 (by decide) ?_
            refine wh_iushr (pc := 77) d_Ji_numberOfTrailingZeros_77 ?_
            refine wh_iadd (pc := 78) d_Ji_numberOfTrailingZeros_78 ?_
            refine wh_iret (pc := 79) d_Ji_numberOfTrailingZeros_79 rfl ?_
            refine ⟨rfl, ?_⟩
            simp only [ntzF]
            rw [if_pos c_9]
            simp only [ntzE, ntzD, ntzC, ntzB, ntzA, ushr]
            simp only [c_23, c_38, c_52, c_64, if_true, if_false]
            try rfl
          · refine wh_iinc (pc := 67) (ls2 := [_, _]) d_Ji_numberOfTrailingZeros_67 rfl rfl (by decide) rfl rfl ?_
            refine wh_iload_n (pc := 70) d_Ji_numberOfTrailingZeros_70 rfl rfl ?_
            refine wh_iconst (pc := 71) (v := 2) d_Ji_numberOfTrailingZeros_71 (by decide) ?_
            refine wh_iushr (pc := 72) d_Ji_numberOfTrailingZeros_72 ?_
            refine wh_istore_n (pc := 73) (ls2 := [_, _]) d_Ji_numberOfTrailingZeros_73 rfl (by decide) rfl rfl ?_
            refine wh_iload_n (pc := 74) d_Ji_numberOfTrailingZeros_74 rfl rfl ?_
            refine wh_iload_n (pc := 75) d_Ji_numberOfTrailingZeros_75 rfl rfl ?_
            refine wh_iconst (pc := 76) (v := 1) d_Ji_numberOfTrailingZeros_76 (by decide) ?_
            refine wh_iushr (pc := 77) d_Ji_numberOfTrailingZeros_77 ?_
            refine wh_iadd (pc := 78) d_Ji_numberOfTrailingZeros_78 ?_
            refine wh_iret (pc := 79) d_Ji_numberOfTrailingZeros_79 rfl ?_
            refine ⟨rfl, ?_⟩
            simp only [ntzF]
            rw [if_pos c_9]
            simp only [ntzE, ntzD, ntzC, ntzB, ntzA, ushr]
            simp only [c_23, c_38, c_52, c_64, if_true, if_false]
            try rfl
    · refine wh_iinc (pc := 26) (ls2 := [_, _]) d_Ji_numberOfTrailingZeros_26 rfl rfl (by decide) rfl rfl ?_
      refine wh_iload_n (pc := 29) d_Ji_numberOfTrailingZeros_29 rfl rfl ?_
      refine wh_bipush (pc := 30) (v := 16) d_Ji_numberOfTrailingZeros_30 (by decide) ?_
      refine wh_iushr (pc := 32) d_Ji_numberOfTrailingZeros_32 ?_
      refine wh_istore_n (pc := 33) (ls2 := [_, _]) d_Ji_numberOfTrailingZeros_33 rfl (by decide) rfl rfl ?_
      refine wh_iload_n (pc := 34) d_Ji_numberOfTrailingZeros_34 rfl rfl ?_
      refine wh_sipush (pc := 35) (v := 256) d_Ji_numberOfTrailingZeros_35 (by decide) ?_
      refine wh_icmp_le (pc := 38) (tgt := 49) d_Ji_numberOfTrailingZeros_38 (by decide) (fun c_38 => ?_) (fun c_38 => ?_)
      · refine wh_iload_n (pc := 49) d_Ji_numberOfTrailingZeros_49 rfl rfl ?_
        refine wh_bipush (pc := 50) (v := 16) d_Ji_numberOfTrailingZeros_50 (by decide) ?_
        refine wh_icmp_le (pc := 52) (tgt := 62) d_Ji_numberOfTrailingZeros_52 (by decide) (fun c_52 => ?_) (fun c_52 => ?_)
        · refine wh_iload_n (pc := 62) d_Ji_numberOfTrailingZeros_62 rfl rfl ?_
          refine wh_iconst (pc := 63) (v := 4) d_Ji_numberOfTrailingZeros_63 (by decide) ?_
          refine wh_icmp_le (pc := 64) (tgt := 74) d_Ji_numberOfTrailingZeros_64 (by decide) (fun c_64 => ?_) (fun c_64 => ?_)
          · refine wh_iload_n (pc := 74) d_Ji_numberOfTrailingZeros_74 rfl rfl ?_
            refine wh_iload_n (pc := 75) d_Ji_numberOfTrailingZeros_75 rfl rfl ?_
            refine wh_iconst (pc := 76) (v := 1) d_Ji_numberOfTrailingZeros_76 (by decide) ?_
            refine wh_iushr (pc := 77) d_Ji_numberOfTrailingZeros_77 ?_
            refine wh_iadd (pc := 78) d_Ji_numberOfTrailingZeros_78 ?_
            refine wh_iret (pc := 79) d_Ji_numberOfTrailingZeros_79 rfl ?_
            refine ⟨rfl, ?_⟩
            simp only [ntzF]
            rw [if_pos c_9]
            simp only [ntzE, ntzD, ntzC, ntzB, ntzA, ushr]
            simp only [c_23, c_38, c_52, c_64, if_true, if_false]
            try rfl
          · refine wh_iinc (pc := 67) (ls2 := [_, _]) d_Ji_numberOfTrailingZeros_67 rfl rfl (by decide) rfl rfl ?_
            refine wh_iload_n (pc := 70) d_Ji_numberOfTrailingZeros_70 rfl rfl ?_
            refine wh_iconst (pc := 71) (v := 2) d_Ji_numberOfTrailingZeros_71 (by decide) ?_
            refine wh_iushr (pc := 72) d_Ji_numberOfTrailingZeros_72 ?_
            refine wh_istore_n (pc := 73) (ls2 := [_, _]) d_Ji_numberOfTrailingZeros_73 rfl (by decide) rfl rfl ?_
            refine wh_iload_n (pc := 74) d_Ji_numberOfTrailingZeros_74 rfl rfl ?_
            refine wh_iload_n (pc := 75) d_Ji_numberOfTrailingZeros_75 rfl rfl ?_
            refine wh_iconst (pc := 76) (v := 1) d_Ji_numberOfTrailingZeros_76 (by decide) ?_
            refine wh_iushr (pc := 77) d_Ji_numberOfTrailingZeros_77 ?_
            refine wh_iadd (pc := 78) d_Ji_numberOfTrailingZeros_78 ?_
            refine wh_iret (pc := 79) d_Ji_numberOfTrailingZeros_79 rfl ?_
            refine ⟨rfl, ?_⟩
            simp only [ntzF]
            rw [if_pos c_9]
            simp only [ntzE, ntzD, ntzC, ntzB, ntzA, ushr]
            simp only [c_23, c_38, c_52, c_64, if_true, if_false]
            try rfl
        · refine wh_iinc (pc := 55) (ls2 := [_, _]) d_Ji_numberOfTrailingZeros_55 rfl rfl (by decide) rfl rfl ?_
          refine wh_iload_n (pc := 58) d_Ji_numberOfTrailingZeros_58 rfl rfl ?_
          refine wh_iconst (pc := 59) (v := 4) d_Ji_numberOfTrailingZeros_59 (by decide) ?_
          refine wh_iushr (pc := 60) d_Ji_numberOfTrailingZeros_60 ?_
          refine wh_istore_n (pc := 61) (ls2 := [_, _]) d_Ji_numberOfTrailingZeros_61 rfl (by decide) rfl rfl ?_
          refine wh_iload_n (pc := 62) d_Ji_numberOfTrailingZeros_62 rfl rfl ?_
          refine wh_iconst (pc := 63) (v := 4) d_Ji_numberOfTrailingZeros_63 (by decide) ?_
          refine wh_icmp_le (pc := 64) (tgt := 74) d_Ji_numberOfTrailingZeros_64 (by decide) (fun c_64 => ?_) (fun c_64 => ?_)
          · refine wh_iload_n (pc := 74) d_Ji_numberOfTrailingZeros_74 rfl rfl ?_
            refine wh_iload_n (pc := 75) d_Ji_numberOfTrailingZeros_75 rfl rfl ?_
            refine wh_iconst (pc := 76) (v := 1) d_Ji_numberOfTrailingZeros_76 (by decide) ?_
            refine wh_iushr (pc := 77) d_Ji_numberOfTrailingZeros_77 ?_
            refine wh_iadd (pc := 78) d_Ji_numberOfTrailingZeros_78 ?_
            refine wh_iret (pc := 79) d_Ji_numberOfTrailingZeros_79 rfl ?_
            refine ⟨rfl, ?_⟩
            simp only [ntzF]
            rw [if_pos c_9]
            simp only [ntzE, ntzD, ntzC, ntzB, ntzA, ushr]
            simp only [c_23, c_38, c_52, c_64, if_true, if_false]
            try rfl
          · refine wh_iinc (pc := 67) (ls2 := [_, _]) d_Ji_numberOfTrailingZeros_67 rfl rfl (by decide) rfl rfl ?_
            refine wh_iload_n (pc := 70) d_Ji_numberOfTrailingZeros_70 rfl rfl ?_
            refine wh_iconst (pc := 71) (v := 2) d_Ji_numberOfTrailingZeros_71 (by decide) ?_
            refine wh_iushr (pc := 72) d_Ji_numberOfTrailingZeros_72 ?_
            refine wh_istore_n (pc := 73) (ls2 := [_, _]) d_Ji_numberOfTrailingZeros_73 rfl (by decide) rfl rfl ?_
            refine wh_iload_n (pc := 74) d_Ji_numberOfTrailingZeros_74 rfl rfl ?_
            refine wh_iload_n (pc := 75) d_Ji_numberOfTrailingZeros_75 rfl rfl ?_
            refine wh_iconst (pc := 76) (v := 1) d_Ji_numberOfTrailingZeros_76 (by decide) ?_
            refine wh_iushr (pc := 77) d_Ji_numberOfTrailingZeros_77 ?_
            refine wh_iadd (pc := 78) d_Ji_numberOfTrailingZeros_78 ?_
            refine wh_iret (pc := 79) d_Ji_numberOfTrailingZeros_79 rfl ?_
            refine ⟨rfl, ?_⟩
            simp only [ntzF]
            rw [if_pos c_9]
            simp only [ntzE, ntzD, ntzC, ntzB, ntzA, ushr]
            simp only [c_23, c_38, c_52, c_64, if_true, if_false]
            try rfl
      · refine wh_iinc (pc := 41) (ls2 := [_, _]) d_Ji_numberOfTrailingZeros_41 rfl rfl (by decide) rfl rfl ?_
        refine wh_iload_n (pc := 44) d_Ji_numberOfTrailingZeros_44 rfl rfl ?_
        refine wh_bipush (pc := 45) (v := 8) d_Ji_numberOfTrailingZeros_45 (by decide) ?_
        refine wh_iushr (pc := 47) d_Ji_numberOfTrailingZeros_47 ?_
        refine wh_istore_n (pc := 48) (ls2 := [_, _]) d_Ji_numberOfTrailingZeros_48 rfl (by decide) rfl rfl ?_
        refine wh_iload_n (pc := 49) d_Ji_numberOfTrailingZeros_49 rfl rfl ?_
        refine wh_bipush (pc := 50) (v := 16) d_Ji_numberOfTrailingZeros_50 (by decide) ?_
        refine wh_icmp_le (pc := 52) (tgt := 62) d_Ji_numberOfTrailingZeros_52 (by decide) (fun c_52 => ?_) (fun c_52 => ?_)
        · refine wh_iload_n (pc := 62) d_Ji_numberOfTrailingZeros_62 rfl rfl ?_
          refine wh_iconst (pc := 63) (v := 4) d_Ji_numberOfTrailingZeros_63 (by decide) ?_
          refine wh_icmp_le (pc := 64) (tgt := 74) d_Ji_numberOfTrailingZeros_64 (by decide) (fun c_64 => ?_) (fun c_64 => ?_)
          · refine wh_iload_n (pc := 74) d_Ji_numberOfTrailingZeros_74 rfl rfl ?_
            refine wh_iload_n (pc := 75) d_Ji_numberOfTrailingZeros_75 rfl rfl ?_
            refine wh_iconst (pc := 76) (v := 1) d_Ji_numberOfTrailingZeros_76 (by decide) ?_
            refine wh_iushr (pc := 77) d_Ji_numberOfTrailingZeros_77 ?_
            refine wh_iadd (pc := 78) d_Ji_numberOfTrailingZeros_78 ?_
            refine wh_iret (pc := 79) d_Ji_numberOfTrailingZeros_79 rfl ?_
            refine ⟨rfl, ?_⟩
            simp only [ntzF]
            rw [if_pos c_9]
            simp only [ntzE, ntzD, ntzC, ntzB, ntzA, ushr]
            simp only [c_23, c_38, c_52, c_64, if_true, if_false]
            try rfl
          · refine wh_iinc (pc := 67) (ls2 := [_, _]) d_Ji_numberOfTrailingZeros_67 rfl rfl (by decide) rfl rfl ?_
            refine wh_iload_n (pc := 70) d_Ji_numberOfTrailingZeros_70 rfl rfl ?_
            refine wh_iconst (pc := 71) (v := 2) d_Ji_numberOfTrailingZeros_71 (by decide) ?_
            refine wh_iushr (pc := 72) d_Ji_numberOfTrailingZeros_72 ?_
            refine wh_istore_n (pc := 73) (ls2 := [_, _]) d_Ji_numberOfTrailingZeros_73 rfl (by decide) rfl rfl ?_
            refine wh_iload_n (pc := 74) d_Ji_numberOfTrailingZeros_74 rfl rfl ?_
            refine wh_iload_n (pc := 75) d_Ji_numberOfTrailingZeros_75 rfl rfl ?_
            refine wh_iconst (pc := 76) (v := 1) d_Ji_numberOfTrailingZeros_76 (by decide) ?_
            refine wh_iushr (pc := 77) d_Ji_numberOfTrailingZeros_77 ?_
            refine wh_iadd (pc := 78) d_Ji_numberOfTrailingZeros_78 ?_
            refine wh_iret (pc := 79) d_Ji_numberOfTrailingZeros_79 rfl ?_
            refine ⟨rfl, ?_⟩
            simp only [ntzF]
            rw [if_pos c_9]
            simp only [ntzE, ntzD, ntzC, ntzB, ntzA, ushr]
            simp only [c_23, c_38, c_52, c_64, if_true, if_false]
            try rfl
        · refine wh_iinc (pc := 55) (ls2 := [_, _]) d_Ji_numberOfTrailingZeros_55 rfl rfl (by decide) rfl rfl ?_
          refine wh_iload_n (pc := 58) d_Ji_numberOfTrailingZeros_58 rfl rfl ?_
          refine wh_iconst (pc := 59) (v := 4) d_Ji_numberOfTrailingZeros_59 (by decide) ?_
          refine wh_iushr (pc := 60) d_Ji_numberOfTrailingZeros_60 ?_
          refine wh_istore_n (pc := 61) (ls2 := [_, _]) d_Ji_numberOfTrailingZeros_61 rfl (by decide) rfl rfl ?_
          refine wh_iload_n (pc := 62) d_Ji_numberOfTrailingZeros_62 rfl rfl ?_
          refine wh_iconst (pc := 63) (v := 4) d_Ji_numberOfTrailingZeros_63 (by decide) ?_
          refine wh_icmp_le (pc := 64) (tgt := 74) d_Ji_numberOfTrailingZeros_64 (by decide) (fun c_64 => ?_) (fun c_64 => ?_)
          · refine wh_iload_n (pc := 74) d_Ji_numberOfTrailingZeros_74 rfl rfl ?_
            refine wh_iload_n (pc := 75) d_Ji_numberOfTrailingZeros_75 rfl rfl ?_
            refine wh_iconst (pc := 76) (v := 1) d_Ji_numberOfTrailingZeros_76 (by decide) ?_
            refine wh_iushr (pc := 77) d_Ji_numberOfTrailingZeros_77 ?_
            refine wh_iadd (pc := 78) d_Ji_numberOfTrailingZeros_78 ?_
            refine wh_iret (pc := 79) d_Ji_numberOfTrailingZeros_79 rfl ?_
            refine ⟨rfl, ?_⟩
            simp only [ntzF]
            rw [if_pos c_9]
            simp only [ntzE, ntzD, ntzC, ntzB, ntzA, ushr]
            simp only [c_23, c_38, c_52, c_64, if_true, if_false]
            try rfl
          · refine wh_iinc (pc := 67) (ls2 := [_, _]) d_Ji_numberOfTrailingZeros_67 rfl rfl (by decide) rfl rfl ?_
            refine wh_iload_n (pc := 70) d_Ji_numberOfTrailingZeros_70 rfl rfl ?_
            refine wh_iconst (pc := 71) (v := 2) d_Ji_numberOfTrailingZeros_71 (by decide) ?_
            refine wh_iushr (pc := 72) d_Ji_numberOfTrailingZeros_72 ?_
            refine wh_istore_n (pc := 73) (ls2 := [_, _]) d_Ji_numberOfTrailingZeros_73 rfl (by decide) rfl rfl ?_
            refine wh_iload_n (pc := 74) d_Ji_numberOfTrailingZeros_74 rfl rfl ?_
            refine wh_iload_n (pc := 75) d_Ji_numberOfTrailingZeros_75 rfl rfl ?_
            refine wh_iconst (pc := 76) (v := 1) d_Ji_numberOfTrailingZeros_76 (by decide) ?_
            refine wh_iushr (pc := 77) d_Ji_numberOfTrailingZeros_77 ?_
            refine wh_iadd (pc := 78) d_Ji_numberOfTrailingZeros_78 ?_
            refine wh_iret (pc := 79) d_Ji_numberOfTrailingZeros_79 rfl ?_
            refine ⟨rfl, ?_⟩
            simp only [ntzF]
            rw [if_pos c_9]
            simp only [ntzE, ntzD, ntzC, ntzB, ntzA, ushr]
            simp only [c_23, c_38, c_52, c_64, if_true, if_false]
            try rfl
  · refine wh_iload_n (pc := 12) d_Ji_numberOfTrailingZeros_12 rfl rfl ?_
    refine wh_bipush (pc := 13) (v := 32) d_Ji_numberOfTrailingZeros_13 (by decide) ?_
    refine wh_iand (pc := 15) d_Ji_numberOfTrailingZeros_15 ?_
    refine wh_iret (pc := 16) d_Ji_numberOfTrailingZeros_16 rfl ?_
    exact ⟨rfl, by simp only [ntzF]; rw [if_neg c_9]⟩
theorem s_hasWindow {l : Launch} {D : va_G} {base : Nat} {b : Nat} (hb : IsLane b) {w : Int32} {h : Hp} {n : Nat} (hn : gI h b 6 = nI n) (h5 : n ≤ 5) : SD l D base M_Ln_hasWindow [.ref b, .int w] h (some (.int (bI w n))) h := by
  refine SP.of [some (.ref b), some (.int w)] (by decide) rfl (Nat.le_of_ble_eq_true rfl) ?_
  refine wh_iload_n (pc := 0) d_Ln_hasWindow_0 rfl rfl ?_
  refine wh_if_lt (pc := 1) (tgt := 21) d_Ln_hasWindow_1 (by decide) (fun c_1 => ?_) (fun c_1 => ?_)
  · refine wh_iconst (pc := 21) (v := 0) d_Ln_hasWindow_21 (by decide) ?_
    refine wh_zret (pc := 22) d_Ln_hasWindow_22 rfl rfl ?_
    refine ⟨rfl, ?_⟩
    first
      | (rw [bI_no (Or.inl c_1)]; done)
      | (rw [bI_no (Or.inr (by rw [← hn]; exact c_9))]; done)
      | (exact absurd c_15 (in_hi (in_up (in_of (n := n) (by omega) c_1 (by rw [← hn]; exact c_9)) h5) (by decide)))
      | (exact absurd c_14 (in_hi (in_up (in_of (n := n) (by omega) c_1 (by rw [← hn]; exact c_9)) h5) (by decide)))
      | (rw [bI_yes c_1 (by rw [← hn]; exact c_9)]; done)
  · refine wh_iload_n (pc := 4) d_Ln_hasWindow_4 rfl rfl ?_
    refine wh_aload_n (pc := 5) d_Ln_hasWindow_5 rfl rfl ?_
    refine gf_Ln_30 (pc := 6) hb rfl d_Ln_hasWindow_6 ?_
    refine wh_icmp_ge (pc := 9) (tgt := 21) d_Ln_hasWindow_9 (by decide) (fun c_9 => ?_) (fun c_9 => ?_)
    · refine wh_iconst (pc := 21) (v := 0) d_Ln_hasWindow_21 (by decide) ?_
      refine wh_zret (pc := 22) d_Ln_hasWindow_22 rfl rfl ?_
      refine ⟨rfl, ?_⟩
      first
        | (rw [bI_no (Or.inl c_1)]; done)
        | (rw [bI_no (Or.inr (by rw [← hn]; exact c_9))]; done)
        | (exact absurd c_15 (in_hi (in_up (in_of (n := n) (by omega) c_1 (by rw [← hn]; exact c_9)) h5) (by decide)))
        | (exact absurd c_14 (in_hi (in_up (in_of (n := n) (by omega) c_1 (by rw [← hn]; exact c_9)) h5) (by decide)))
        | (rw [bI_yes c_1 (by rw [← hn]; exact c_9)]; done)
    · refine wh_iload_n (pc := 12) d_Ln_hasWindow_12 rfl rfl ?_
      refine wh_iconst (pc := 13) (v := 5) d_Ln_hasWindow_13 (by decide) ?_
      refine wh_icmp_ge (pc := 14) (tgt := 21) d_Ln_hasWindow_14 (by decide) (fun c_14 => ?_) (fun c_14 => ?_)
      · refine wh_iconst (pc := 21) (v := 0) d_Ln_hasWindow_21 (by decide) ?_
        refine wh_zret (pc := 22) d_Ln_hasWindow_22 rfl rfl ?_
        refine ⟨rfl, ?_⟩
        first
          | (rw [bI_no (Or.inl c_1)]; done)
          | (rw [bI_no (Or.inr (by rw [← hn]; exact c_9))]; done)
          | (exact absurd c_15 (in_hi (in_up (in_of (n := n) (by omega) c_1 (by rw [← hn]; exact c_9)) h5) (by decide)))
          | (exact absurd c_14 (in_hi (in_up (in_of (n := n) (by omega) c_1 (by rw [← hn]; exact c_9)) h5) (by decide)))
          | (rw [bI_yes c_1 (by rw [← hn]; exact c_9)]; done)
      · refine wh_iconst (pc := 17) (v := 1) d_Ln_hasWindow_17 (by decide) ?_
        refine wh_goto (pc := 18) (tgt := 22) d_Ln_hasWindow_18 (by decide) ?_
        refine wh_zret (pc := 22) d_Ln_hasWindow_22 rfl rfl ?_
        refine ⟨rfl, ?_⟩
        first
          | (rw [bI_no (Or.inl c_1)]; done)
          | (rw [bI_no (Or.inr (by rw [← hn]; exact c_9))]; done)
          | (exact absurd c_15 (in_hi (in_up (in_of (n := n) (by omega) c_1 (by rw [← hn]; exact c_9)) h5) (by decide)))
          | (exact absurd c_14 (in_hi (in_up (in_of (n := n) (by omega) c_1 (by rw [← hn]; exact c_9)) h5) (by decide)))
          | (rw [bI_yes c_1 (by rw [← hn]; exact c_9)]; done)
theorem s_hasMoth {l : Launch} {D : va_G} {base : Nat} {b : Nat} (hb : IsLane b) {w : Int32} {h : Hp} {n : Nat} (hn : gI h b 7 = nI n) (h5 : n ≤ 6) : SD l D base M_Ln_hasMoth [.ref b, .int w] h (some (.int (bI w n))) h := by
  refine SP.of [some (.ref b), some (.int w)] (by decide) rfl (Nat.le_of_ble_eq_true rfl) ?_
  refine wh_iload_n (pc := 0) d_Ln_hasMoth_0 rfl rfl ?_
  refine wh_if_lt (pc := 1) (tgt := 22) d_Ln_hasMoth_1 (by decide) (fun c_1 => ?_) (fun c_1 => ?_)
  · refine wh_iconst (pc := 22) (v := 0) d_Ln_hasMoth_22 (by decide) ?_
    refine wh_zret (pc := 23) d_Ln_hasMoth_23 rfl rfl ?_
    refine ⟨rfl, ?_⟩
    first
      | (rw [bI_no (Or.inl c_1)]; done)
      | (rw [bI_no (Or.inr (by rw [← hn]; exact c_9))]; done)
      | (exact absurd c_15 (in_hi (in_up (in_of (n := n) (by omega) c_1 (by rw [← hn]; exact c_9)) h5) (by decide)))
      | (exact absurd c_14 (in_hi (in_up (in_of (n := n) (by omega) c_1 (by rw [← hn]; exact c_9)) h5) (by decide)))
      | (rw [bI_yes c_1 (by rw [← hn]; exact c_9)]; done)
  · refine wh_iload_n (pc := 4) d_Ln_hasMoth_4 rfl rfl ?_
    refine wh_aload_n (pc := 5) d_Ln_hasMoth_5 rfl rfl ?_
    refine gf_Ln_34 (pc := 6) hb rfl d_Ln_hasMoth_6 ?_
    refine wh_icmp_ge (pc := 9) (tgt := 22) d_Ln_hasMoth_9 (by decide) (fun c_9 => ?_) (fun c_9 => ?_)
    · refine wh_iconst (pc := 22) (v := 0) d_Ln_hasMoth_22 (by decide) ?_
      refine wh_zret (pc := 23) d_Ln_hasMoth_23 rfl rfl ?_
      refine ⟨rfl, ?_⟩
      first
        | (rw [bI_no (Or.inl c_1)]; done)
        | (rw [bI_no (Or.inr (by rw [← hn]; exact c_9))]; done)
        | (exact absurd c_15 (in_hi (in_up (in_of (n := n) (by omega) c_1 (by rw [← hn]; exact c_9)) h5) (by decide)))
        | (exact absurd c_14 (in_hi (in_up (in_of (n := n) (by omega) c_1 (by rw [← hn]; exact c_9)) h5) (by decide)))
        | (rw [bI_yes c_1 (by rw [← hn]; exact c_9)]; done)
    · refine wh_iload_n (pc := 12) d_Ln_hasMoth_12 rfl rfl ?_
      refine wh_bipush (pc := 13) (v := 6) d_Ln_hasMoth_13 (by decide) ?_
      refine wh_icmp_ge (pc := 15) (tgt := 22) d_Ln_hasMoth_15 (by decide) (fun c_15 => ?_) (fun c_15 => ?_)
      · refine wh_iconst (pc := 22) (v := 0) d_Ln_hasMoth_22 (by decide) ?_
        refine wh_zret (pc := 23) d_Ln_hasMoth_23 rfl rfl ?_
        refine ⟨rfl, ?_⟩
        first
          | (rw [bI_no (Or.inl c_1)]; done)
          | (rw [bI_no (Or.inr (by rw [← hn]; exact c_9))]; done)
          | (exact absurd c_15 (in_hi (in_up (in_of (n := n) (by omega) c_1 (by rw [← hn]; exact c_9)) h5) (by decide)))
          | (exact absurd c_14 (in_hi (in_up (in_of (n := n) (by omega) c_1 (by rw [← hn]; exact c_9)) h5) (by decide)))
          | (rw [bI_yes c_1 (by rw [← hn]; exact c_9)]; done)
      · refine wh_iconst (pc := 18) (v := 1) d_Ln_hasMoth_18 (by decide) ?_
        refine wh_goto (pc := 19) (tgt := 23) d_Ln_hasMoth_19 (by decide) ?_
        refine wh_zret (pc := 23) d_Ln_hasMoth_23 rfl rfl ?_
        refine ⟨rfl, ?_⟩
        first
          | (rw [bI_no (Or.inl c_1)]; done)
          | (rw [bI_no (Or.inr (by rw [← hn]; exact c_9))]; done)
          | (exact absurd c_15 (in_hi (in_up (in_of (n := n) (by omega) c_1 (by rw [← hn]; exact c_9)) h5) (by decide)))
          | (exact absurd c_14 (in_hi (in_up (in_of (n := n) (by omega) c_1 (by rw [← hn]; exact c_9)) h5) (by decide)))
          | (rw [bI_yes c_1 (by rw [← hn]; exact c_9)]; done)
theorem wf_w {h : Hp} {b : Nat} (hS : WFS (laneS h b)) : gI h b 6 = nI (nW (laneS h b)) := hS.1.2
theorem wf_m {h : Hp} {b : Nat} (hS : WFS (laneS h b)) : gI h b 7 = nI (nM (laneS h b)) := hS.2.1.2
theorem s_glow {l : Launch} {D : va_G} {base : Nat} {b : Nat} (hb : IsLane b) {h : Hp} (hS : WFS (laneS h b)) {k : Nat} (hk : k < nW (laneS h b)) : SD l D base M_Ln_glow [.ref b, .int (nI k)] h (some (.int (glowF (laneS h b 2 k) (laneS h b 1 k)))) h := by
  refine SP.of [some (.ref b), some (.int (nI k))] (by decide) rfl (Nat.le_of_ble_eq_true rfl) ?_
  have hw5 := hS.1.1
  have hm6 := hS.2.1.1
  refine wh_aload_n (pc := 0) d_Ln_glow_0 rfl rfl ?_
  refine gf_Ln_18 (pc := 1) hb rfl d_Ln_glow_1 ?_
  refine wh_iload_n (pc := 4) d_Ln_glow_4 rfl rfl ?_
  refine wh_iald (pc := 5) d_Ln_glow_5 (la_kinds hb) (in_nI (by omega) (by omega)) ?_
  refine wh_iconst (pc := 6) (v := 1) d_Ln_glow_6 (by decide) ?_
  refine wh_icmp_ne (pc := 7) (tgt := 19) d_Ln_glow_7 (by decide) (fun c_7 => ?_) (fun c_7 => ?_)
  · refine wh_aload_n (pc := 19) d_Ln_glow_19 rfl rfl ?_
    refine gf_Ln_18 (pc := 20) hb rfl d_Ln_glow_20 ?_
    refine wh_iload_n (pc := 23) d_Ln_glow_23 rfl rfl ?_
    refine wh_iald (pc := 24) d_Ln_glow_24 (la_kinds hb) (in_nI (by omega) (by omega)) ?_
    refine wh_iconst (pc := 25) (v := 3) d_Ln_glow_25 (by decide) ?_
    refine wh_icmp_ne (pc := 26) (tgt := 40) d_Ln_glow_26 (by decide) (fun c_26 => ?_) (fun c_26 => ?_)
    · refine wh_aload_n (pc := 40) d_Ln_glow_40 rfl rfl ?_
      refine gf_Ln_15 (pc := 41) hb rfl d_Ln_glow_41 ?_
      refine wh_iload_n (pc := 44) d_Ln_glow_44 rfl rfl ?_
      refine wh_iald (pc := 45) d_Ln_glow_45 (la_burns hb) (in_nI (by omega) (by omega)) ?_
      refine wh_iret (pc := 46) d_Ln_glow_46 rfl ?_
      refine ⟨rfl, ?_⟩
      rw [cl_nI (by omega)] at *
      simp only [la1 hk, la2 hk] at *
      simp [glowF, *]
    · refine wh_aload_n (pc := 29) d_Ln_glow_29 rfl rfl ?_
      refine gf_Ln_15 (pc := 30) hb rfl d_Ln_glow_30 ?_
      refine wh_iload_n (pc := 33) d_Ln_glow_33 rfl rfl ?_
      refine wh_iald (pc := 34) d_Ln_glow_34 (la_burns hb) (in_nI (by omega) (by omega)) ?_
      refine wh_iconst (pc := 35) (v := 2) d_Ln_glow_35 (by decide) ?_
      refine wh_iadd (pc := 36) d_Ln_glow_36 ?_
      refine wh_goto (pc := 37) (tgt := 46) d_Ln_glow_37 (by decide) ?_
      refine wh_iret (pc := 46) d_Ln_glow_46 rfl ?_
      refine ⟨rfl, ?_⟩
      rw [cl_nI (by omega)] at *
      simp only [la1 hk, la2 hk] at *
      simp [glowF, *]
  · refine wh_aload_n (pc := 10) d_Ln_glow_10 rfl rfl ?_
    refine gf_Ln_15 (pc := 11) hb rfl d_Ln_glow_11 ?_
    refine wh_iload_n (pc := 14) d_Ln_glow_14 rfl rfl ?_
    refine wh_iald (pc := 15) d_Ln_glow_15 (la_burns hb) (in_nI (by omega) (by omega)) ?_
    refine wh_iconst (pc := 16) (v := 2) d_Ln_glow_16 (by decide) ?_
    refine wh_idiv (pc := 17) d_Ln_glow_17 (by decide) ?_
    refine wh_iret (pc := 18) d_Ln_glow_18 rfl ?_
    refine ⟨rfl, ?_⟩
    rw [cl_nI (by omega)] at *
    simp only [la1 hk, la2 hk] at *
    simp [glowF, *]
theorem s_windHelp {l : Launch} {D : va_G} {base : Nat} {b : Nat} (hb : IsLane b) {h : Hp} {x y : Int32} : SD l D base M_Ln_windHelp [.ref b, .int x, .int y] h (some (.int (if (gI h b 8 = 0 ∧ y < x) ∨ (gI h b 8 = 2 ∧ x < y) then 1 else 0))) h := by
  refine SP.of [some (.ref b), some (.int x), some (.int y), none] (by decide) rfl (Nat.le_of_ble_eq_true rfl) ?_
  refine wh_aload_n (pc := 0) d_Ln_windHelp_0 rfl rfl ?_
  refine gf_Ln_37 (pc := 1) hb rfl d_Ln_windHelp_1 ?_
  refine wh_if_ne (pc := 4) (tgt := 12) d_Ln_windHelp_4 (by decide) (fun c_4 => ?_) (fun c_4 => ?_)
  · refine wh_aload_n (pc := 12) d_Ln_windHelp_12 rfl rfl ?_
    refine gf_Ln_37 (pc := 13) hb rfl d_Ln_windHelp_13 ?_
    refine wh_iconst (pc := 16) (v := 2) d_Ln_windHelp_16 (by decide) ?_
    refine wh_icmp_ne (pc := 17) (tgt := 29) d_Ln_windHelp_17 (by decide) (fun c_17 => ?_) (fun c_17 => ?_)
    · refine wh_iconst (pc := 29) (v := 0) d_Ln_windHelp_29 (by decide) ?_
      refine wh_istore_n (pc := 30) (ls2 := [_, _, _, _]) d_Ln_windHelp_30 rfl (by decide) rfl rfl ?_
      refine wh_iload_n (pc := 31) d_Ln_windHelp_31 rfl rfl ?_
      refine wh_if_eq (pc := 32) (tgt := 39) d_Ln_windHelp_32 (by decide) (fun c_32 => ?_) (fun c_32 => absurd (by decide) c_32)
      refine wh_iconst (pc := 39) (v := 0) d_Ln_windHelp_39 (by decide) ?_
      refine wh_iret (pc := 40) d_Ln_windHelp_40 rfl ?_
      refine ⟨rfl, ?_⟩
      first | (simp [*]; done) | (simp_all; done) | (rw [c_4] at c_17; exact absurd c_17 (by decide))
    · refine wh_iload_n (pc := 20) d_Ln_windHelp_20 rfl rfl ?_
      refine wh_iload_n (pc := 21) d_Ln_windHelp_21 rfl rfl ?_
      refine wh_icmp_le (pc := 22) (tgt := 29) d_Ln_windHelp_22 (by decide) (fun c_22 => ?_) (fun c_22 => ?_)
      · refine wh_iconst (pc := 29) (v := 0) d_Ln_windHelp_29 (by decide) ?_
        refine wh_istore_n (pc := 30) (ls2 := [_, _, _, _]) d_Ln_windHelp_30 rfl (by decide) rfl rfl ?_
        refine wh_iload_n (pc := 31) d_Ln_windHelp_31 rfl rfl ?_
        refine wh_if_eq (pc := 32) (tgt := 39) d_Ln_windHelp_32 (by decide) (fun c_32 => ?_) (fun c_32 => absurd (by decide) c_32)
        refine wh_iconst (pc := 39) (v := 0) d_Ln_windHelp_39 (by decide) ?_
        refine wh_iret (pc := 40) d_Ln_windHelp_40 rfl ?_
        refine ⟨rfl, ?_⟩
        first | (simp [*]; done) | (simp_all; done) | (rw [c_4] at c_17; exact absurd c_17 (by decide))
      · refine wh_iconst (pc := 25) (v := 1) d_Ln_windHelp_25 (by decide) ?_
        refine wh_goto (pc := 26) (tgt := 30) d_Ln_windHelp_26 (by decide) ?_
        refine wh_istore_n (pc := 30) (ls2 := [_, _, _, _]) d_Ln_windHelp_30 rfl (by decide) rfl rfl ?_
        refine wh_iload_n (pc := 31) d_Ln_windHelp_31 rfl rfl ?_
        refine wh_if_eq (pc := 32) (tgt := 39) d_Ln_windHelp_32 (by decide) (fun c_32 => absurd c_32 (by decide)) (fun c_32 => ?_)
        refine wh_iconst (pc := 35) (v := 1) d_Ln_windHelp_35 (by decide) ?_
        refine wh_goto (pc := 36) (tgt := 40) d_Ln_windHelp_36 (by decide) ?_
        refine wh_iret (pc := 40) d_Ln_windHelp_40 rfl ?_
        refine ⟨rfl, ?_⟩
        first | (simp [*]; done) | (simp_all; done) | (rw [c_4] at c_17; exact absurd c_17 (by decide))
  · refine wh_iload_n (pc := 7) d_Ln_windHelp_7 rfl rfl ?_
    refine wh_iload_n (pc := 8) d_Ln_windHelp_8 rfl rfl ?_
    refine wh_icmp_lt (pc := 9) (tgt := 25) d_Ln_windHelp_9 (by decide) (fun c_9 => ?_) (fun c_9 => ?_)
    · refine wh_iconst (pc := 25) (v := 1) d_Ln_windHelp_25 (by decide) ?_
      refine wh_goto (pc := 26) (tgt := 30) d_Ln_windHelp_26 (by decide) ?_
      refine wh_istore_n (pc := 30) (ls2 := [_, _, _, _]) d_Ln_windHelp_30 rfl (by decide) rfl rfl ?_
      refine wh_iload_n (pc := 31) d_Ln_windHelp_31 rfl rfl ?_
      refine wh_if_eq (pc := 32) (tgt := 39) d_Ln_windHelp_32 (by decide) (fun c_32 => absurd c_32 (by decide)) (fun c_32 => ?_)
      refine wh_iconst (pc := 35) (v := 1) d_Ln_windHelp_35 (by decide) ?_
      refine wh_goto (pc := 36) (tgt := 40) d_Ln_windHelp_36 (by decide) ?_
      refine wh_iret (pc := 40) d_Ln_windHelp_40 rfl ?_
      refine ⟨rfl, ?_⟩
      first | (simp [*]; done) | (simp_all; done) | (rw [c_4] at c_17; exact absurd c_17 (by decide))
    · refine wh_aload_n (pc := 12) d_Ln_windHelp_12 rfl rfl ?_
      refine gf_Ln_37 (pc := 13) hb rfl d_Ln_windHelp_13 ?_
      refine wh_iconst (pc := 16) (v := 2) d_Ln_windHelp_16 (by decide) ?_
      refine wh_icmp_ne (pc := 17) (tgt := 29) d_Ln_windHelp_17 (by decide) (fun c_17 => ?_) (fun c_17 => ?_)
      · refine wh_iconst (pc := 29) (v := 0) d_Ln_windHelp_29 (by decide) ?_
        refine wh_istore_n (pc := 30) (ls2 := [_, _, _, _]) d_Ln_windHelp_30 rfl (by decide) rfl rfl ?_
        refine wh_iload_n (pc := 31) d_Ln_windHelp_31 rfl rfl ?_
        refine wh_if_eq (pc := 32) (tgt := 39) d_Ln_windHelp_32 (by decide) (fun c_32 => ?_) (fun c_32 => absurd (by decide) c_32)
        refine wh_iconst (pc := 39) (v := 0) d_Ln_windHelp_39 (by decide) ?_
        refine wh_iret (pc := 40) d_Ln_windHelp_40 rfl ?_
        refine ⟨rfl, ?_⟩
        first | (simp [*]; done) | (simp_all; done) | (rw [c_4] at c_17; exact absurd c_17 (by decide))
      · refine wh_iload_n (pc := 20) d_Ln_windHelp_20 rfl rfl ?_
        refine wh_iload_n (pc := 21) d_Ln_windHelp_21 rfl rfl ?_
        refine wh_icmp_le (pc := 22) (tgt := 29) d_Ln_windHelp_22 (by decide) (fun c_22 => ?_) (fun c_22 => ?_)
        · refine wh_iconst (pc := 29) (v := 0) d_Ln_windHelp_29 (by decide) ?_
          refine wh_istore_n (pc := 30) (ls2 := [_, _, _, _]) d_Ln_windHelp_30 rfl (by decide) rfl rfl ?_
          refine wh_iload_n (pc := 31) d_Ln_windHelp_31 rfl rfl ?_
          refine wh_if_eq (pc := 32) (tgt := 39) d_Ln_windHelp_32 (by decide) (fun c_32 => ?_) (fun c_32 => absurd (by decide) c_32)
          refine wh_iconst (pc := 39) (v := 0) d_Ln_windHelp_39 (by decide) ?_
          refine wh_iret (pc := 40) d_Ln_windHelp_40 rfl ?_
          refine ⟨rfl, ?_⟩
          first | (simp [*]; done) | (simp_all; done) | (rw [c_4] at c_17; exact absurd c_17 (by decide))
        · refine wh_iconst (pc := 25) (v := 1) d_Ln_windHelp_25 (by decide) ?_
          refine wh_goto (pc := 26) (tgt := 30) d_Ln_windHelp_26 (by decide) ?_
          refine wh_istore_n (pc := 30) (ls2 := [_, _, _, _]) d_Ln_windHelp_30 rfl (by decide) rfl rfl ?_
          refine wh_iload_n (pc := 31) d_Ln_windHelp_31 rfl rfl ?_
          refine wh_if_eq (pc := 32) (tgt := 39) d_Ln_windHelp_32 (by decide) (fun c_32 => absurd c_32 (by decide)) (fun c_32 => ?_)
          refine wh_iconst (pc := 35) (v := 1) d_Ln_windHelp_35 (by decide) ?_
          refine wh_goto (pc := 36) (tgt := 40) d_Ln_windHelp_36 (by decide) ?_
          refine wh_iret (pc := 40) d_Ln_windHelp_40 rfl ?_
          refine ⟨rfl, ?_⟩
          first | (simp [*]; done) | (simp_all; done) | (rw [c_4] at c_17; exact absurd c_17 (by decide))
theorem s_sweet {l : Launch} {D : va_G} {base : Nat} {b : Nat} (hb : IsLane b) {h : Hp} (hS : WFS (laneS h b)) {k : Nat} {j : Nat} (hk : k < nW (laneS h b)) (hj : j < nM (laneS h b)) : SD l D base M_Ln_sweetness [.ref b, .int (nI k), .int (nI j)] h (some (.int (if laneS h b 4 j = 3 ∧ laneS h b 0 k = gI h b 9 then 3 else 0))) h := by
  refine SP.of [some (.ref b), some (.int (nI k)), some (.int (nI j))] (by decide) rfl (Nat.le_of_ble_eq_true rfl) ?_
  have hw5 := hS.1.1
  have hm6 := hS.2.1.1
  refine wh_aload_n (pc := 0) d_Ln_sweetness_0 rfl rfl ?_
  refine gf_Ln_27 (pc := 1) hb rfl d_Ln_sweetness_1 ?_
  refine wh_iload_n (pc := 4) d_Ln_sweetness_4 rfl rfl ?_
  refine wh_iald (pc := 5) d_Ln_sweetness_5 (la_sorts hb) (in_nI (by omega) (by omega)) ?_
  refine wh_iconst (pc := 6) (v := 3) d_Ln_sweetness_6 (by decide) ?_
  refine wh_icmp_ne (pc := 7) (tgt := 27) d_Ln_sweetness_7 (by decide) (fun c_7 => ?_) (fun c_7 => ?_)
  · refine wh_iconst (pc := 27) (v := 0) d_Ln_sweetness_27 (by decide) ?_
    refine wh_iret (pc := 28) d_Ln_sweetness_28 rfl ?_
    refine ⟨rfl, ?_⟩
    rw [cl_nI (by omega)] at *
    try rw [cl_nI (by omega)] at *
    simp only [la0 hk, la4 hj] at *
    simp [*]
  · refine wh_aload_n (pc := 10) d_Ln_sweetness_10 rfl rfl ?_
    refine gf_Ln_9 (pc := 11) hb rfl d_Ln_sweetness_11 ?_
    refine wh_iload_n (pc := 14) d_Ln_sweetness_14 rfl rfl ?_
    refine wh_iald (pc := 15) d_Ln_sweetness_15 (la_spots hb) (in_nI (by omega) (by omega)) ?_
    refine wh_aload_n (pc := 16) d_Ln_sweetness_16 rfl rfl ?_
    refine gf_Ln_40 (pc := 17) hb rfl d_Ln_sweetness_17 ?_
    refine wh_icmp_ne (pc := 20) (tgt := 27) d_Ln_sweetness_20 (by decide) (fun c_20 => ?_) (fun c_20 => ?_)
    · refine wh_iconst (pc := 27) (v := 0) d_Ln_sweetness_27 (by decide) ?_
      refine wh_iret (pc := 28) d_Ln_sweetness_28 rfl ?_
      refine ⟨rfl, ?_⟩
      rw [cl_nI (by omega)] at *
      try rw [cl_nI (by omega)] at *
      simp only [la0 hk, la4 hj] at *
      simp [*]
    · refine wh_iconst (pc := 23) (v := 3) d_Ln_sweetness_23 (by decide) ?_
      refine wh_goto (pc := 24) (tgt := 28) d_Ln_sweetness_24 (by decide) ?_
      refine wh_iret (pc := 28) d_Ln_sweetness_28 rfl ?_
      refine ⟨rfl, ?_⟩
      rw [cl_nI (by omega)] at *
      try rw [cl_nI (by omega)] at *
      simp only [la0 hk, la4 hj] at *
      simp [*]

theorem s_isFree {l : Launch} {D : va_G} {base : Nat} {b : Nat} (hb : IsLane b) {h : Hp} {S : St} (hS : laneS h b = S) (hF : WFS S) {x : Int32} : SD l D base M_Ln_isFree [.ref b, .int x] h (some (.int (if anyN (fun q => decide (S 0 q = x)) (nW S) then 0 else 1))) h := by
  refine SP.of [some (.ref b), some (.int x), none] (by decide) rfl (Nat.le_of_ble_eq_true rfl) ?_
  subst hS
  have hw5 := hF.1.1
  have hm6 := hF.2.1.1
  refine wh_iconst (pc := 0) (v := 0) d_Ln_isFree_0 (by decide) ?_
  refine wh_istore_n (pc := 1) (ls2 := [_, _, _]) d_Ln_isFree_1 rfl (by decide) rfl rfl ?_
  refine wh_eq (wh_loop (nW (laneS h b)) (fun i => [some (.ref b), some (.int x), some (.int (nI i))]) (fun i => h) (fun i => ∀ k, k < i → decide (laneS h b 0 k = x) = false) ?_ ?_ 0 (Nat.zero_le _) (fun k hk => by omega)) ?_ rfl ?_
  · intro hI
    refine wh_iload_n (pc := 2) d_Ln_isFree_2 rfl rfl ?_
    refine wh_aload_n (pc := 3) d_Ln_isFree_3 rfl rfl ?_
    refine gf_Ln_30 (pc := 4) hb rfl d_Ln_isFree_4 ?_
    refine wh_icmp_ge (pc := 7) (tgt := 28) d_Ln_isFree_7 (by decide) (fun c_7 => ?_) (fun c_7 => absurd (by rw [wf_w hF]; exact nI_le (Nat.le_refl _) (by omega)) c_7)
    refine wh_iconst (pc := 28) (v := 1) d_Ln_isFree_28 (by decide) ?_
    refine wh_zret (pc := 29) d_Ln_isFree_29 rfl rfl ?_
    refine ⟨rfl, ?_⟩
    rw [any_no _ hI]
    rfl
  · intro i hi hI ih
    refine wh_iload_n (pc := 2) d_Ln_isFree_2 rfl rfl ?_
    refine wh_aload_n (pc := 3) d_Ln_isFree_3 rfl rfl ?_
    refine gf_Ln_30 (pc := 4) hb rfl d_Ln_isFree_4 ?_
    refine wh_icmp_ge (pc := 7) (tgt := 28) d_Ln_isFree_7 (by decide) (fun c_7 => absurd c_7 (by rw [wf_w hF]; exact nI_ge hi (by omega))) (fun c_7 => ?_)
    refine wh_aload_n (pc := 10) d_Ln_isFree_10 rfl rfl ?_
    refine gf_Ln_9 (pc := 11) hb rfl d_Ln_isFree_11 ?_
    refine wh_iload_n (pc := 14) d_Ln_isFree_14 rfl rfl ?_
    refine wh_iald (pc := 15) d_Ln_isFree_15 (la_spots hb) (in_nI (by omega) (by omega)) ?_
    refine wh_iload_n (pc := 16) d_Ln_isFree_16 rfl rfl ?_
    refine wh_icmp_ne (pc := 17) (tgt := 22) d_Ln_isFree_17 (by decide) (fun c_17 => ?_) (fun c_17 => ?_)
    · refine wh_iinc (pc := 22) (ls2 := [_, _, _]) d_Ln_isFree_22 rfl (nI_inc _) (by decide) rfl rfl ?_
      refine wh_goto (pc := 25) (tgt := 2) d_Ln_isFree_25 (by decide) ?_
      rw [cl_nI (by omega), la0 hi] at c_17
      refine ih (fun k hk => ?_)
      by_cases e : k = i
      · subst e; simp; exact c_17
      · exact hI k (by omega)
    · refine wh_iconst (pc := 20) (v := 0) d_Ln_isFree_20 (by decide) ?_
      refine wh_zret (pc := 21) d_Ln_isFree_21 rfl rfl ?_
      refine ⟨rfl, ?_⟩
      rw [cl_nI (by omega), la0 hi] at c_17
      rw [any_yes _ i hi (by simp; exact c_17)]
      rfl
  · rfl
  · rfl
theorem s_most {l : Launch} {D : va_G} {base : Nat} {b : Nat} (hb : IsLane b) {h : Hp} {S : St} (hS : laneS h b = S) (hF : WFS S) {j : Nat} (hj : j < nM S) : SD l D base M_Ln_greatestTugOn [.ref b, .int (nI j)] h (some (.int (mostF S j))) h := by
  refine SP.of [some (.ref b), some (.int (nI j)), none, none] (by decide) rfl (Nat.le_of_ble_eq_true rfl) ?_
  subst hS
  have hw5 := hF.1.1
  have hm6 := hF.2.1.1
  refine wh_iconst (pc := 0) (v := 0) d_Ln_greatestTugOn_0 (by decide) ?_
  refine wh_istore_n (pc := 1) (ls2 := [_, _, _, _]) d_Ln_greatestTugOn_1 rfl (by decide) rfl rfl ?_
  refine wh_iconst (pc := 2) (v := 0) d_Ln_greatestTugOn_2 (by decide) ?_
  refine wh_istore_n (pc := 3) (ls2 := [_, _, _, _]) d_Ln_greatestTugOn_3 rfl (by decide) rfl rfl ?_
  refine wh_eq (wh_loop (nW (laneS h b)) (fun i => [some (.ref b), some (.int (nI j)), some (.int (mxN (fun k => pullF (laneS h b) k j) i)), some (.int (nI i))]) (fun i => h) (fun i => True) ?_ ?_ 0 (Nat.zero_le _) trivial) ?_ rfl ?_
  · intro _
    refine wh_iload_n (pc := 4) d_Ln_greatestTugOn_4 rfl rfl ?_
    refine wh_aload_n (pc := 5) d_Ln_greatestTugOn_5 rfl rfl ?_
    refine gf_Ln_30 (pc := 6) hb rfl d_Ln_greatestTugOn_6 ?_
    refine wh_icmp_ge (pc := 9) (tgt := 29) d_Ln_greatestTugOn_9 (by decide) (fun c_9 => ?_) (fun c_9 => absurd (by rw [wf_w hF]; exact nI_le (Nat.le_refl _) (by omega)) c_9)
    refine wh_iload_n (pc := 29) d_Ln_greatestTugOn_29 rfl rfl ?_
    refine wh_iret (pc := 30) d_Ln_greatestTugOn_30 rfl ?_
    exact ⟨rfl, rfl⟩
  · intro i hi _ ih
    refine wh_iload_n (pc := 4) d_Ln_greatestTugOn_4 rfl rfl ?_
    refine wh_aload_n (pc := 5) d_Ln_greatestTugOn_5 rfl rfl ?_
    refine gf_Ln_30 (pc := 6) hb rfl d_Ln_greatestTugOn_6 ?_
    refine wh_icmp_ge (pc := 9) (tgt := 29) d_Ln_greatestTugOn_9 (by decide) (fun c_9 => absurd c_9 (by rw [wf_w hF]; exact nI_ge hi (by omega))) (fun c_9 => ?_)
    refine wh_iload_n (pc := 12) d_Ln_greatestTugOn_12 rfl rfl ?_
    refine wh_aload_n (pc := 13) d_Ln_greatestTugOn_13 rfl rfl ?_
    refine wh_iload_n (pc := 14) d_Ln_greatestTugOn_14 rfl rfl ?_
    refine wh_iload_n (pc := 15) d_Ln_greatestTugOn_15 rfl rfl ?_
    refine cv_Ln_75_d (pc := 16) hb rfl d_Ln_greatestTugOn_16 ⟨⟨by decide, by decide⟩, rfl, rfl⟩ (s_tug hb rfl hF hi hj) (Nat.le_of_ble_eq_true rfl) ?_
    refine wh_mmax (pc := 19) d_Ln_greatestTugOn_19 ml_Ln_72 ⟨by decide, Nat.le_of_ble_eq_true rfl⟩ ?_
    refine wh_istore_n (pc := 22) (ls2 := [_, _, _, _]) d_Ln_greatestTugOn_22 rfl (by decide) rfl rfl ?_
    refine wh_iinc (pc := 23) (ls2 := [_, _, _, _]) d_Ln_greatestTugOn_23 rfl (nI_inc _) (by decide) rfl rfl ?_
    refine wh_goto (pc := 26) (tgt := 4) d_Ln_greatestTugOn_26 (by decide) ?_
    exact ih trivial
  · rfl
  · rfl
theorem s_draws {l : Launch} {D : va_G} {base : Nat} {b : Nat} (hb : IsLane b) {h : Hp} {S : St} (hS : laneS h b = S) (hF : WFS S) {j : Nat} (hj : j < nM S) : SD l D base M_Ln_drawersOf [.ref b, .int (nI j)] h (some (.int (drawsF S j))) h := by
  refine SP.of [some (.ref b), some (.int (nI j)), none, none, none, none] (by decide) rfl (Nat.le_of_ble_eq_true rfl) ?_
  subst hS
  have hw5 := hF.1.1
  have hm6 := hF.2.1.1
  refine wh_iconst (pc := 0) (v := 0) d_Ln_drawersOf_0 (by decide) ?_
  refine wh_istore_n (pc := 1) (ls2 := [_, _, _, _, _, _]) d_Ln_drawersOf_1 rfl (by decide) rfl rfl ?_
  refine wh_iconst (pc := 2) (v := 0) d_Ln_drawersOf_2 (by decide) ?_
  refine wh_istore_n (pc := 3) (ls2 := [_, _, _, _, _, _]) d_Ln_drawersOf_3 rfl (by decide) rfl rfl ?_
  refine wh_iconst (pc := 4) (v := 0) d_Ln_drawersOf_4 (by decide) ?_
  refine wh_istore (pc := 5) (ls2 := [_, _, _, _, _, _]) d_Ln_drawersOf_5 (by decide) rfl rfl ?_
  refine wh_eq (wh_loop (nW (laneS h b)) (fun i => [some (.ref b), some (.int (nI j)), some (.int (mxN (fun k => pullF (laneS h b) k j) i)), some (.int (drN (fun k => pullF (laneS h b) k j) i)), some (.int (nI i)), if i = 0 then none else some (.int (pullF (laneS h b) (i - 1) j))]) (fun _ => h) (fun _ => True) ?_ ?_ 0 (Nat.zero_le _) trivial) ?_ rfl ?_
  · intro _
    refine wh_iload (pc := 7) d_Ln_drawersOf_7 rfl ?_
    refine wh_aload_n (pc := 9) d_Ln_drawersOf_9 rfl rfl ?_
    refine gf_Ln_30 (pc := 10) hb rfl d_Ln_drawersOf_10 ?_
    refine wh_icmp_ge (pc := 13) (tgt := 60) d_Ln_drawersOf_13 (by decide) (fun c_13 => ?_) (fun c_13 => absurd (by rw [wf_w hF]; exact nI_le (Nat.le_refl _) (by omega)) c_13)
    refine wh_iload_n (pc := 60) d_Ln_drawersOf_60 rfl rfl ?_
    refine wh_iret (pc := 61) d_Ln_drawersOf_61 rfl ?_
    exact ⟨rfl, rfl⟩
  · intro i hi _ ih
    have ih := ih trivial
    rw [if_neg (by omega), Nat.add_sub_cancel] at ih
    refine wh_iload (pc := 7) d_Ln_drawersOf_7 rfl ?_
    refine wh_aload_n (pc := 9) d_Ln_drawersOf_9 rfl rfl ?_
    refine gf_Ln_30 (pc := 10) hb rfl d_Ln_drawersOf_10 ?_
    refine wh_icmp_ge (pc := 13) (tgt := 60) d_Ln_drawersOf_13 (by decide) (fun c_13 => absurd c_13 (by rw [wf_w hF]; exact nI_ge hi (by omega))) (fun c_13 => ?_)
    refine wh_aload_n (pc := 16) d_Ln_drawersOf_16 rfl rfl ?_
    refine wh_iload (pc := 17) d_Ln_drawersOf_17 rfl ?_
    refine wh_iload_n (pc := 19) d_Ln_drawersOf_19 rfl rfl ?_
    refine cv_Ln_75_d (pc := 20) hb rfl d_Ln_drawersOf_20 ⟨⟨by decide, by decide⟩, rfl, rfl⟩ (s_tug hb rfl hF hi hj) (Nat.le_of_ble_eq_true rfl) ?_
    refine wh_istore (pc := 23) (ls2 := [_, _, _, _, _, _]) d_Ln_drawersOf_23 (by decide) rfl rfl ?_
    refine wh_iload (pc := 25) d_Ln_drawersOf_25 rfl ?_
    refine wh_iload_n (pc := 27) d_Ln_drawersOf_27 rfl rfl ?_
    refine wh_icmp_le (pc := 28) (tgt := 36) d_Ln_drawersOf_28 (by decide) (fun c_28 => ?_) (fun c_28 => ?_)
    · refine wh_iload (pc := 36) d_Ln_drawersOf_36 rfl ?_
      refine wh_if_le (pc := 38) (tgt := 54) d_Ln_drawersOf_38 (by decide) (fun c_38 => ?_) (fun c_38 => ?_)
      · refine wh_iinc (pc := 54) (ls2 := [_, _, _, _, _, _]) d_Ln_drawersOf_54 rfl (nI_inc _) (by decide) rfl rfl ?_
        refine wh_goto (pc := 57) (tgt := 7) d_Ln_drawersOf_57 (by decide) ?_
        first
          | (refine wh_eq ih ?_ rfl rfl; rw [mx_gt c_28, dr_gt c_28 c_38]; done)
          | (exact (dr_gt0 (f := (fun k => pullF (laneS h b) k j)) c_28 c_38).elim)
          | (exact absurd rfl c_44)
          | (refine wh_eq ih ?_ rfl rfl; rw [mx_le (f := (fun k => pullF (laneS h b) k j)) c_28, dr_le (f := (fun k => pullF (laneS h b) k j)) c_28 c_38 c_44]; done)
          | (refine wh_eq ih ?_ rfl rfl; rw [mx_le (f := (fun k => pullF (laneS h b) k j)) c_28, dr_le0 (f := (fun k => pullF (laneS h b) k j)) c_28 (Or.inl c_38)]; done)
          | (refine wh_eq ih ?_ rfl rfl; rw [mx_le (f := (fun k => pullF (laneS h b) k j)) c_28, dr_le0 (f := (fun k => pullF (laneS h b) k j)) c_28 (Or.inr c_44)]; done)
      · refine wh_iload (pc := 41) d_Ln_drawersOf_41 rfl ?_
        refine wh_iload_n (pc := 43) d_Ln_drawersOf_43 rfl rfl ?_
        refine wh_icmp_ne (pc := 44) (tgt := 54) d_Ln_drawersOf_44 (by decide) (fun c_44 => ?_) (fun c_44 => ?_)
        · refine wh_iinc (pc := 54) (ls2 := [_, _, _, _, _, _]) d_Ln_drawersOf_54 rfl (nI_inc _) (by decide) rfl rfl ?_
          refine wh_goto (pc := 57) (tgt := 7) d_Ln_drawersOf_57 (by decide) ?_
          first
            | (refine wh_eq ih ?_ rfl rfl; rw [mx_gt c_28, dr_gt c_28 c_38]; done)
            | (exact (dr_gt0 (f := (fun k => pullF (laneS h b) k j)) c_28 c_38).elim)
            | (exact absurd rfl c_44)
            | (refine wh_eq ih ?_ rfl rfl; rw [mx_le (f := (fun k => pullF (laneS h b) k j)) c_28, dr_le (f := (fun k => pullF (laneS h b) k j)) c_28 c_38 c_44]; done)
            | (refine wh_eq ih ?_ rfl rfl; rw [mx_le (f := (fun k => pullF (laneS h b) k j)) c_28, dr_le0 (f := (fun k => pullF (laneS h b) k j)) c_28 (Or.inl c_38)]; done)
            | (refine wh_eq ih ?_ rfl rfl; rw [mx_le (f := (fun k => pullF (laneS h b) k j)) c_28, dr_le0 (f := (fun k => pullF (laneS h b) k j)) c_28 (Or.inr c_44)]; done)
        · refine wh_iload_n (pc := 47) d_Ln_drawersOf_47 rfl rfl ?_
          refine wh_iconst (pc := 48) (v := 1) d_Ln_drawersOf_48 (by decide) ?_
          refine wh_iload (pc := 49) d_Ln_drawersOf_49 rfl ?_
          refine wh_ishl (pc := 51) d_Ln_drawersOf_51 ?_
          refine wh_ior (pc := 52) d_Ln_drawersOf_52 ?_
          refine wh_istore_n (pc := 53) (ls2 := [_, _, _, _, _, _]) d_Ln_drawersOf_53 rfl (by decide) rfl rfl ?_
          refine wh_iinc (pc := 54) (ls2 := [_, _, _, _, _, _]) d_Ln_drawersOf_54 rfl (nI_inc _) (by decide) rfl rfl ?_
          refine wh_goto (pc := 57) (tgt := 7) d_Ln_drawersOf_57 (by decide) ?_
          first
            | (refine wh_eq ih ?_ rfl rfl; rw [mx_gt c_28, dr_gt c_28 c_38]; done)
            | (exact (dr_gt0 (f := (fun k => pullF (laneS h b) k j)) c_28 c_38).elim)
            | (exact absurd rfl c_44)
            | (refine wh_eq ih ?_ rfl rfl; rw [mx_le (f := (fun k => pullF (laneS h b) k j)) c_28, dr_le (f := (fun k => pullF (laneS h b) k j)) c_28 c_38 c_44]; done)
            | (refine wh_eq ih ?_ rfl rfl; rw [mx_le (f := (fun k => pullF (laneS h b) k j)) c_28, dr_le0 (f := (fun k => pullF (laneS h b) k j)) c_28 (Or.inl c_38)]; done)
            | (refine wh_eq ih ?_ rfl rfl; rw [mx_le (f := (fun k => pullF (laneS h b) k j)) c_28, dr_le0 (f := (fun k => pullF (laneS h b) k j)) c_28 (Or.inr c_44)]; done)
    · refine wh_iload (pc := 31) d_Ln_drawersOf_31 rfl ?_
      refine wh_istore_n (pc := 33) (ls2 := [_, _, _, _, _, _]) d_Ln_drawersOf_33 rfl (by decide) rfl rfl ?_
      refine wh_iconst (pc := 34) (v := 0) d_Ln_drawersOf_34 (by decide) ?_
      refine wh_istore_n (pc := 35) (ls2 := [_, _, _, _, _, _]) d_Ln_drawersOf_35 rfl (by decide) rfl rfl ?_
      refine wh_iload (pc := 36) d_Ln_drawersOf_36 rfl ?_
      refine wh_if_le (pc := 38) (tgt := 54) d_Ln_drawersOf_38 (by decide) (fun c_38 => ?_) (fun c_38 => ?_)
      · refine wh_iinc (pc := 54) (ls2 := [_, _, _, _, _, _]) d_Ln_drawersOf_54 rfl (nI_inc _) (by decide) rfl rfl ?_
        refine wh_goto (pc := 57) (tgt := 7) d_Ln_drawersOf_57 (by decide) ?_
        first
          | (refine wh_eq ih ?_ rfl rfl; rw [mx_gt c_28, dr_gt c_28 c_38]; done)
          | (exact (dr_gt0 (f := (fun k => pullF (laneS h b) k j)) c_28 c_38).elim)
          | (exact absurd rfl c_44)
          | (refine wh_eq ih ?_ rfl rfl; rw [mx_le (f := (fun k => pullF (laneS h b) k j)) c_28, dr_le (f := (fun k => pullF (laneS h b) k j)) c_28 c_38 c_44]; done)
          | (refine wh_eq ih ?_ rfl rfl; rw [mx_le (f := (fun k => pullF (laneS h b) k j)) c_28, dr_le0 (f := (fun k => pullF (laneS h b) k j)) c_28 (Or.inl c_38)]; done)
          | (refine wh_eq ih ?_ rfl rfl; rw [mx_le (f := (fun k => pullF (laneS h b) k j)) c_28, dr_le0 (f := (fun k => pullF (laneS h b) k j)) c_28 (Or.inr c_44)]; done)
      · refine wh_iload (pc := 41) d_Ln_drawersOf_41 rfl ?_
        refine wh_iload_n (pc := 43) d_Ln_drawersOf_43 rfl rfl ?_
        refine wh_icmp_ne (pc := 44) (tgt := 54) d_Ln_drawersOf_44 (by decide) (fun c_44 => ?_) (fun c_44 => ?_)
        · refine wh_iinc (pc := 54) (ls2 := [_, _, _, _, _, _]) d_Ln_drawersOf_54 rfl (nI_inc _) (by decide) rfl rfl ?_
          refine wh_goto (pc := 57) (tgt := 7) d_Ln_drawersOf_57 (by decide) ?_
          first
            | (refine wh_eq ih ?_ rfl rfl; rw [mx_gt c_28, dr_gt c_28 c_38]; done)
            | (exact (dr_gt0 (f := (fun k => pullF (laneS h b) k j)) c_28 c_38).elim)
            | (exact absurd rfl c_44)
            | (refine wh_eq ih ?_ rfl rfl; rw [mx_le (f := (fun k => pullF (laneS h b) k j)) c_28, dr_le (f := (fun k => pullF (laneS h b) k j)) c_28 c_38 c_44]; done)
            | (refine wh_eq ih ?_ rfl rfl; rw [mx_le (f := (fun k => pullF (laneS h b) k j)) c_28, dr_le0 (f := (fun k => pullF (laneS h b) k j)) c_28 (Or.inl c_38)]; done)
            | (refine wh_eq ih ?_ rfl rfl; rw [mx_le (f := (fun k => pullF (laneS h b) k j)) c_28, dr_le0 (f := (fun k => pullF (laneS h b) k j)) c_28 (Or.inr c_44)]; done)
        · refine wh_iload_n (pc := 47) d_Ln_drawersOf_47 rfl rfl ?_
          refine wh_iconst (pc := 48) (v := 1) d_Ln_drawersOf_48 (by decide) ?_
          refine wh_iload (pc := 49) d_Ln_drawersOf_49 rfl ?_
          refine wh_ishl (pc := 51) d_Ln_drawersOf_51 ?_
          refine wh_ior (pc := 52) d_Ln_drawersOf_52 ?_
          refine wh_istore_n (pc := 53) (ls2 := [_, _, _, _, _, _]) d_Ln_drawersOf_53 rfl (by decide) rfl rfl ?_
          refine wh_iinc (pc := 54) (ls2 := [_, _, _, _, _, _]) d_Ln_drawersOf_54 rfl (nI_inc _) (by decide) rfl rfl ?_
          refine wh_goto (pc := 57) (tgt := 7) d_Ln_drawersOf_57 (by decide) ?_
          first
            | (refine wh_eq ih ?_ rfl rfl; rw [mx_gt c_28, dr_gt c_28 c_38]; done)
            | (exact (dr_gt0 (f := (fun k => pullF (laneS h b) k j)) c_28 c_38).elim)
            | (exact absurd rfl c_44)
            | (refine wh_eq ih ?_ rfl rfl; rw [mx_le (f := (fun k => pullF (laneS h b) k j)) c_28, dr_le (f := (fun k => pullF (laneS h b) k j)) c_28 c_38 c_44]; done)
            | (refine wh_eq ih ?_ rfl rfl; rw [mx_le (f := (fun k => pullF (laneS h b) k j)) c_28, dr_le0 (f := (fun k => pullF (laneS h b) k j)) c_28 (Or.inl c_38)]; done)
            | (refine wh_eq ih ?_ rfl rfl; rw [mx_le (f := (fun k => pullF (laneS h b) k j)) c_28, dr_le0 (f := (fun k => pullF (laneS h b) k j)) c_28 (Or.inr c_44)]; done)
  · rfl
  · rfl

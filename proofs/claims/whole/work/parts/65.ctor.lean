/-! the four constructors: what they make, cell by cell -/
def zH : Hp := (fun _ _ => 0, fun _ _ => 0, fun _ _ => none)
theorem gI_zH (a j : Nat) : gI zH a j = 0 := rfl
def fD (fm : List (Nat × Option Nat)) (j : Nat) : List (Nat × Option Nat) := fm.take j ++ (fm.drop j).map (fun f => (f.1, none))
def fLm : List (Nat × Option Nat) := [(2, some 1), (0, none), (2, some 2), (2, some 10), (2, some 18), (2, some 19), (0, none), (2, some 34), (2, some 37), (2, some 38), (2, some 39), (2, some 40), (0, none), (2, some 41), (1, none)]
def fLa : List (Nat × Option Nat) := [(2, some 3), (2, some 4), (2, some 5), (2, some 6), (2, some 7), (2, some 8), (0, none), (0, none), (0, none), (0, none), (0, none), (2, some 9)]
def fLb : List (Nat × Option Nat) := [(2, some 11), (2, some 12), (2, some 13), (2, some 14), (2, some 15), (2, some 16), (0, none), (0, none), (0, none), (0, none), (0, none), (2, some 17)]
def fRd : List (Nat × Option Nat) := [(0, none), (0, none), (0, none)]
def fMd : List (Nat × Option Nat) := [(0, none), (2, some 43), (0, none), (0, none), (0, none), (2, some 44), (0, none), (2, some 45), (0, none), (0, none), (0, none), (2, some 46), (0, none), (2, some 47), (2, some 48), (2, some 49), (2, some 50), (0, none), (2, some 51), (2, some 52), (0, none), (2, some 53), (2, some 54), (2, some 55), (1, none), (2, some 56), (2, some 57), (0, none), (0, none), (0, none), (0, none), (0, none), (0, none), (2, some 58), (2, some 59)]
/-- the cells pre, then an object at a, j of its fields set, then k cells more -/
def sA (pre : List Sh) (a ci : Nat) (fm : List (Nat × Option Nat)) (j k : Nat) : List Sh := pre ++ .inr (ci, fD fm j) :: (SH.drop (a + 1)).take k
def sLm (j k : Nat) : List Sh := sA [] 0 2 fLm j k
def sMd (j k : Nat) : List Sh := sA (SH.take 42) 42 3 fMd j k
def hLn (h : Hp) (b : Nat) : Hp := sI (sI (sI (sI (sI h b 6 0) b 7 0) b 8 1) b 9 9) b 10 0
def hRd (h : Hp) (b : Nat) : Hp := sI (sI (sI h b 0 0) b 1 0) b 2 0
def hA1 : Hp := sI zH 0 1 0
def hA2 : Hp := hLn hA1 2
def hA3 : Hp := hLn hA2 10
def hA4 : Hp := hRd hA3 18
def hA5 : Hp := sI (layR hA4 19 14) 0 6 0
def hA6 : Hp := layR hA5 34 2
def hA9 : Hp := sL (sI hA6 0 12 0) 0 14 0
def hB2 : Hp := sI (sI hA9 48 16 1) 48 17 9
theorem zq_4 (q j : Nat) (hq : 18 < q) : gI hA4 q j = 0 := by
  have e1 : q ≠ 18 := by omega
  have e2 : q ≠ 10 := by omega
  have e3 : q ≠ 2 := by omega
  have e4 : q ≠ 0 := by omega
  simp [hA4, hRd, hA3, hA2, hLn, hA1, gI_sI, gI_zH, e1, e2, e3, e4]
theorem zq_5 (q j : Nat) (hq : 18 < q) : gI hA5 q j = 0 := by
  show (if q = 0 ∧ j = 6 then (0 : Int32) else gI hA4 q j) = 0
  rw [if_neg (by omega), zq_4 q j hq]
theorem kw_int : Cond.arrayClass .int ∈ lw_gt := gt_at 122 (by decide +kernel) rfl
theorem kw_bool : Cond.arrayClass .boolean ∈ lw_gt := gt_at 187 (by decide +kernel) rfl
theorem kw_oi : Cond.instanceMethod Lib.objectInit ∈ lw_gt := gt_at 62 (by decide +kernel) rfl
theorem kw_oc : Cond.code Lib.objectInit ⟨#[0xb1]⟩ 1 none ∈ lw_gt := gt_at 63 (by decide +kernel) rfl
theorem kw_oLm : Cond.methodLink "LampMoths" 3 Lib.objectInit ∈ lw_gt := gt_at 61 (by decide +kernel) rfl
theorem k_Lm_init : okM M_Lm_init 0 := ⟨gt_at 60 (by decide +kernel) rfl, gt_at 50 (by decide +kernel) rfl, by decide +kernel⟩
theorem ki_Lm_init : Cond.instanceMethod M_Lm_init.1 ∈ lw_gt := gt_at 59 (by decide +kernel) rfl
theorem kn_Lm : Cond.instantiable "LampMoths" 15 ∈ lw_gt := gt_at 57 (by decide +kernel) rfl
theorem ke_Lm : Cond.initialized "LampMoths" ∈ lw_gt := gt_at 50 (by decide +kernel) rfl
theorem kw_oLn : Cond.methodLink "LampMoths$Lane" 3 Lib.objectInit ∈ lw_gt := gt_at 69 (by decide +kernel) rfl
theorem k_Ln_init : okM M_Ln_init 0 := ⟨gt_at 68 (by decide +kernel) rfl, gt_at 51 (by decide +kernel) rfl, by decide +kernel⟩
theorem ki_Ln_init : Cond.instanceMethod M_Ln_init.1 ∈ lw_gt := gt_at 67 (by decide +kernel) rfl
theorem kn_Ln : Cond.instantiable "LampMoths$Lane" 12 ∈ lw_gt := gt_at 65 (by decide +kernel) rfl
theorem ke_Ln : Cond.initialized "LampMoths$Lane" ∈ lw_gt := gt_at 51 (by decide +kernel) rfl
theorem kw_oRd : Cond.methodLink "LampMoths$Reader" 3 Lib.objectInit ∈ lw_gt := gt_at 128 (by decide +kernel) rfl
theorem k_Rd_init : okM M_Rd_init 0 := ⟨gt_at 127 (by decide +kernel) rfl, gt_at 52 (by decide +kernel) rfl, by decide +kernel⟩
theorem ki_Rd_init : Cond.instanceMethod M_Rd_init.1 ∈ lw_gt := gt_at 126 (by decide +kernel) rfl
theorem kn_Rd : Cond.instantiable "LampMoths$Reader" 3 ∈ lw_gt := gt_at 124 (by decide +kernel) rfl
theorem ke_Rd : Cond.initialized "LampMoths$Reader" ∈ lw_gt := gt_at 52 (by decide +kernel) rfl
theorem kw_oMd : Cond.methodLink "LampMothsModel" 1 Lib.objectInit ∈ lw_gt := gt_at 563 (by decide +kernel) rfl
theorem k_Md_init : okM M_Md_init 0 := ⟨gt_at 562 (by decide +kernel) rfl, gt_at 53 (by decide +kernel) rfl, by decide +kernel⟩
theorem ki_Md_init : Cond.instanceMethod M_Md_init.1 ∈ lw_gt := gt_at 561 (by decide +kernel) rfl
theorem kn_Md : Cond.instantiable "LampMothsModel" 35 ∈ lw_gt := gt_at 559 (by decide +kernel) rfl
theorem ke_Md : Cond.initialized "LampMothsModel" ∈ lw_gt := gt_at 53 (by decide +kernel) rfl
theorem kw_l17 : Cond.classLink "LampMoths" 17 "LampMoths$Lane" ∈ lw_gt := gt_at 64 (by decide +kernel) rfl
theorem kw_l27 : Cond.classLink "LampMoths" 27 "LampMoths$Reader" ∈ lw_gt := gt_at 123 (by decide +kernel) rfl
theorem kw_l34 : Cond.classLink "LampMoths" 34 "[[I" ∈ lw_gt := gt_at 139 (by decide +kernel) rfl
theorem wx_sh {l : Launch} {D : va_G} {base : Nat} {z : Nat × Nat} {M : MI} {sh sh2 : List Sh} {pc : Nat} {ls : List (Option Value)} {st : List Value} {h h2 : Hp} {Q : List Sh → Hp → Option Value → Prop} (e : sh = sh2) (e2 : h = h2) (k : WX l D base z M sh2 pc ls st h2 Q) : WX l D base z M sh pc ls st h Q := by subst e; subst e2; exact k
theorem c_Rd_init {l : Launch} {D : va_G} {base : Nat} : SX l D base M_Rd_init (sA (sLm 4 17) 18 1 fRd 0 0) [.ref 18] hA3 (fun sh2 h2 r => sh2 = sA (sLm 4 17) 18 1 fRd 0 0 ∧ h2 = hA4 ∧ r = none) := by
  refine SX.of [some (.ref 18)] (by decide) rfl (Nat.le_of_ble_eq_true rfl) ?_
  refine wx_aload_n (pc := 0) d_Rd_init_0 rfl rfl ?_
  refine wx_objI (pc := 1) d_Rd_init_1 kw_oRd kw_oi kw_oc (by decide) (Nat.le_of_ble_eq_true rfl) ?_
  refine wx_aload_n (pc := 4) d_Rd_init_4 rfl rfl ?_
  refine wx_iconst (pc := 5) (v := 0) d_Rd_init_5 (by decide) ?_
  refine wx_putI (pc := 6) (ci := 1) (k := 0) d_Rd_init_6 rfl rfl ig_Rd t_Rd t_Rd_ok n_Rd (by decide) fl_Rd_11 rfl (by decide +kernel) rfl ?_
  refine wx_aload_n (pc := 9) d_Rd_init_9 rfl rfl ?_
  refine wx_iconst (pc := 10) (v := 0) d_Rd_init_10 (by decide) ?_
  refine wx_putI (pc := 11) (ci := 1) (k := 1) d_Rd_init_11 rfl rfl ig_Rd t_Rd t_Rd_ok n_Rd (by decide) fl_Rd_15 rfl (by decide +kernel) rfl ?_
  refine wx_aload_n (pc := 14) d_Rd_init_14 rfl rfl ?_
  refine wx_iconst (pc := 15) (v := 0) d_Rd_init_15 (by decide) ?_
  refine wx_putI (pc := 16) (ci := 1) (k := 2) d_Rd_init_16 rfl rfl ig_Rd t_Rd t_Rd_ok n_Rd (by decide) fl_Rd_18 rfl (by decide +kernel) rfl ?_
  refine wx_vret (pc := 19) d_Rd_init_19 rfl ⟨(Nat.le_of_ble_eq_true rfl), (Nat.le_of_ble_eq_true rfl)⟩ ⟨rfl, rfl, rfl⟩
theorem c_La_init {l : Launch} {D : va_G} {base : Nat} : SX l D base M_Ln_init (sA (sLm 1 1) 2 0 fLa 0 0) [.ref 2] hA1 (fun sh2 h2 r => sh2 = sA (sLm 1 1) 2 0 fLa 12 7 ∧ h2 = hA2 ∧ r = none) := by
  refine SX.of [some (.ref 2)] (by decide) rfl (Nat.le_of_ble_eq_true rfl) ?_
  refine wx_aload_n (pc := 0) d_Ln_init_0 rfl rfl ?_
  refine wx_objI (pc := 1) d_Ln_init_1 kw_oLn kw_oi kw_oc (by decide) (Nat.le_of_ble_eq_true rfl) ?_
  refine wx_aload_n (pc := 4) d_Ln_init_4 rfl rfl ?_
  refine wx_iconst (pc := 5) (v := 5) d_Ln_init_5 (by decide) ?_
  refine wx_newI (pc := 6) (a := 3) (N := 5) (sh2 := sA (sLm 1 1) 2 0 fLa 0 1) d_Ln_init_6 (by decide) rfl (by decide) kw_int rfl rfl (Nat.le_of_ble_eq_true rfl) (Nat.le_of_ble_eq_true rfl) (Nat.le_of_ble_eq_true rfl) (Nat.le_of_ble_eq_true rfl) (fun _ => rfl) ?_
  refine wx_putR (pc := 8) (sh2 := sA (sLm 1 1) 2 0 fLa 1 1) (ty := t_Ln 0) (ci := 0) (k := 0) d_Ln_init_8 rfl rfl ig_Ln t_Ln t_Ln_ok n_Ln (by decide) fl_Ln_9 rfl rfl rfl (t_Ln_ok 0 (by decide)) (fun _ => rfl) (fun _ => rfl) rfl rfl rfl rfl ?_
  refine wx_aload_n (pc := 11) d_Ln_init_11 rfl rfl ?_
  refine wx_iconst (pc := 12) (v := 5) d_Ln_init_12 (by decide) ?_
  refine wx_newI (pc := 13) (a := 4) (N := 5) (sh2 := sA (sLm 1 1) 2 0 fLa 1 2) d_Ln_init_13 (by decide) rfl (by decide) kw_int rfl rfl (Nat.le_of_ble_eq_true rfl) (Nat.le_of_ble_eq_true rfl) (Nat.le_of_ble_eq_true rfl) (Nat.le_of_ble_eq_true rfl) (fun _ => rfl) ?_
  refine wx_putR (pc := 15) (sh2 := sA (sLm 1 1) 2 0 fLa 2 2) (ty := t_Ln 1) (ci := 0) (k := 1) d_Ln_init_15 rfl rfl ig_Ln t_Ln t_Ln_ok n_Ln (by decide) fl_Ln_15 rfl rfl rfl (t_Ln_ok 1 (by decide)) (fun _ => rfl) (fun _ => rfl) rfl rfl rfl rfl ?_
  refine wx_aload_n (pc := 18) d_Ln_init_18 rfl rfl ?_
  refine wx_iconst (pc := 19) (v := 5) d_Ln_init_19 (by decide) ?_
  refine wx_newI (pc := 20) (a := 5) (N := 5) (sh2 := sA (sLm 1 1) 2 0 fLa 2 3) d_Ln_init_20 (by decide) rfl (by decide) kw_int rfl rfl (Nat.le_of_ble_eq_true rfl) (Nat.le_of_ble_eq_true rfl) (Nat.le_of_ble_eq_true rfl) (Nat.le_of_ble_eq_true rfl) (fun _ => rfl) ?_
  refine wx_putR (pc := 22) (sh2 := sA (sLm 1 1) 2 0 fLa 3 3) (ty := t_Ln 2) (ci := 0) (k := 2) d_Ln_init_22 rfl rfl ig_Ln t_Ln t_Ln_ok n_Ln (by decide) fl_Ln_18 rfl rfl rfl (t_Ln_ok 2 (by decide)) (fun _ => rfl) (fun _ => rfl) rfl rfl rfl rfl ?_
  refine wx_aload_n (pc := 25) d_Ln_init_25 rfl rfl ?_
  refine wx_iconst (pc := 26) (v := 5) d_Ln_init_26 (by decide) ?_
  refine wx_newI (pc := 27) (a := 6) (N := 5) (sh2 := sA (sLm 1 1) 2 0 fLa 3 4) d_Ln_init_27 (by decide) rfl (by decide) kw_int rfl rfl (Nat.le_of_ble_eq_true rfl) (Nat.le_of_ble_eq_true rfl) (Nat.le_of_ble_eq_true rfl) (Nat.le_of_ble_eq_true rfl) (fun _ => rfl) ?_
  refine wx_putR (pc := 29) (sh2 := sA (sLm 1 1) 2 0 fLa 4 4) (ty := t_Ln 3) (ci := 0) (k := 3) d_Ln_init_29 rfl rfl ig_Ln t_Ln t_Ln_ok n_Ln (by decide) fl_Ln_21 rfl rfl rfl (t_Ln_ok 3 (by decide)) (fun _ => rfl) (fun _ => rfl) rfl rfl rfl rfl ?_
  refine wx_aload_n (pc := 32) d_Ln_init_32 rfl rfl ?_
  refine wx_bipush (pc := 33) (v := 6) d_Ln_init_33 (by decide) ?_
  refine wx_newI (pc := 35) (a := 7) (N := 6) (sh2 := sA (sLm 1 1) 2 0 fLa 4 5) d_Ln_init_35 (by decide) rfl (by decide) kw_int rfl rfl (Nat.le_of_ble_eq_true rfl) (Nat.le_of_ble_eq_true rfl) (Nat.le_of_ble_eq_true rfl) (Nat.le_of_ble_eq_true rfl) (fun _ => rfl) ?_
  refine wx_putR (pc := 37) (sh2 := sA (sLm 1 1) 2 0 fLa 5 5) (ty := t_Ln 4) (ci := 0) (k := 4) d_Ln_init_37 rfl rfl ig_Ln t_Ln t_Ln_ok n_Ln (by decide) fl_Ln_24 rfl rfl rfl (t_Ln_ok 4 (by decide)) (fun _ => rfl) (fun _ => rfl) rfl rfl rfl rfl ?_
  refine wx_aload_n (pc := 40) d_Ln_init_40 rfl rfl ?_
  refine wx_bipush (pc := 41) (v := 6) d_Ln_init_41 (by decide) ?_
  refine wx_newI (pc := 43) (a := 8) (N := 6) (sh2 := sA (sLm 1 1) 2 0 fLa 5 6) d_Ln_init_43 (by decide) rfl (by decide) kw_int rfl rfl (Nat.le_of_ble_eq_true rfl) (Nat.le_of_ble_eq_true rfl) (Nat.le_of_ble_eq_true rfl) (Nat.le_of_ble_eq_true rfl) (fun _ => rfl) ?_
  refine wx_putR (pc := 45) (sh2 := sA (sLm 1 1) 2 0 fLa 6 6) (ty := t_Ln 5) (ci := 0) (k := 5) d_Ln_init_45 rfl rfl ig_Ln t_Ln t_Ln_ok n_Ln (by decide) fl_Ln_27 rfl rfl rfl (t_Ln_ok 5 (by decide)) (fun _ => rfl) (fun _ => rfl) rfl rfl rfl rfl ?_
  refine wx_aload_n (pc := 48) d_Ln_init_48 rfl rfl ?_
  refine wx_iconst (pc := 49) (v := 0) d_Ln_init_49 (by decide) ?_
  refine wx_putI (pc := 50) (ci := 0) (k := 6) d_Ln_init_50 rfl rfl ig_Ln t_Ln t_Ln_ok n_Ln (by decide) fl_Ln_30 rfl (by decide +kernel) rfl ?_
  refine wx_aload_n (pc := 53) d_Ln_init_53 rfl rfl ?_
  refine wx_iconst (pc := 54) (v := 0) d_Ln_init_54 (by decide) ?_
  refine wx_putI (pc := 55) (ci := 0) (k := 7) d_Ln_init_55 rfl rfl ig_Ln t_Ln t_Ln_ok n_Ln (by decide) fl_Ln_34 rfl (by decide +kernel) rfl ?_
  refine wx_aload_n (pc := 58) d_Ln_init_58 rfl rfl ?_
  refine wx_iconst (pc := 59) (v := 1) d_Ln_init_59 (by decide) ?_
  refine wx_putI (pc := 60) (ci := 0) (k := 8) d_Ln_init_60 rfl rfl ig_Ln t_Ln t_Ln_ok n_Ln (by decide) fl_Ln_37 rfl (by decide +kernel) rfl ?_
  refine wx_aload_n (pc := 63) d_Ln_init_63 rfl rfl ?_
  refine wx_bipush (pc := 64) (v := 9) d_Ln_init_64 (by decide) ?_
  refine wx_putI (pc := 66) (ci := 0) (k := 9) d_Ln_init_66 rfl rfl ig_Ln t_Ln t_Ln_ok n_Ln (by decide) fl_Ln_40 rfl (by decide +kernel) rfl ?_
  refine wx_aload_n (pc := 69) d_Ln_init_69 rfl rfl ?_
  refine wx_iconst (pc := 70) (v := 0) d_Ln_init_70 (by decide) ?_
  refine wx_putI (pc := 71) (ci := 0) (k := 10) d_Ln_init_71 rfl rfl ig_Ln t_Ln t_Ln_ok n_Ln (by decide) fl_Ln_43 rfl (by decide +kernel) rfl ?_
  refine wx_aload_n (pc := 74) d_Ln_init_74 rfl rfl ?_
  refine wx_iconst (pc := 75) (v := 5) d_Ln_init_75 (by decide) ?_
  refine wx_newI (pc := 76) (a := 9) (N := 5) (sh2 := sA (sLm 1 1) 2 0 fLa 6 7) d_Ln_init_76 (by decide) rfl (by decide) kw_int rfl rfl (Nat.le_of_ble_eq_true rfl) (Nat.le_of_ble_eq_true rfl) (Nat.le_of_ble_eq_true rfl) (Nat.le_of_ble_eq_true rfl) (fun _ => rfl) ?_
  refine wx_putR (pc := 78) (sh2 := sA (sLm 1 1) 2 0 fLa 12 7) (ty := t_Ln 11) (ci := 0) (k := 11) d_Ln_init_78 rfl rfl ig_Ln t_Ln t_Ln_ok n_Ln (by decide) fl_Ln_46 rfl rfl rfl (t_Ln_ok 11 (by decide)) (fun _ => rfl) (fun _ => rfl) rfl rfl rfl rfl ?_
  refine wx_vret (pc := 81) d_Ln_init_81 rfl ⟨(Nat.le_of_ble_eq_true rfl), (Nat.le_of_ble_eq_true rfl)⟩ ⟨rfl, rfl, rfl⟩
theorem c_Lb_init {l : Launch} {D : va_G} {base : Nat} : SX l D base M_Ln_init (sA (sLm 3 9) 10 0 fLb 0 0) [.ref 10] hA2 (fun sh2 h2 r => sh2 = sA (sLm 3 9) 10 0 fLb 12 7 ∧ h2 = hA3 ∧ r = none) := by
  refine SX.of [some (.ref 10)] (by decide) rfl (Nat.le_of_ble_eq_true rfl) ?_
  refine wx_aload_n (pc := 0) d_Ln_init_0 rfl rfl ?_
  refine wx_objI (pc := 1) d_Ln_init_1 kw_oLn kw_oi kw_oc (by decide) (Nat.le_of_ble_eq_true rfl) ?_
  refine wx_aload_n (pc := 4) d_Ln_init_4 rfl rfl ?_
  refine wx_iconst (pc := 5) (v := 5) d_Ln_init_5 (by decide) ?_
  refine wx_newI (pc := 6) (a := 11) (N := 5) (sh2 := sA (sLm 3 9) 10 0 fLb 0 1) d_Ln_init_6 (by decide) rfl (by decide) kw_int rfl rfl (Nat.le_of_ble_eq_true rfl) (Nat.le_of_ble_eq_true rfl) (Nat.le_of_ble_eq_true rfl) (Nat.le_of_ble_eq_true rfl) (fun _ => rfl) ?_
  refine wx_putR (pc := 8) (sh2 := sA (sLm 3 9) 10 0 fLb 1 1) (ty := t_Ln 0) (ci := 0) (k := 0) d_Ln_init_8 rfl rfl ig_Ln t_Ln t_Ln_ok n_Ln (by decide) fl_Ln_9 rfl rfl rfl (t_Ln_ok 0 (by decide)) (fun _ => rfl) (fun _ => rfl) rfl rfl rfl rfl ?_
  refine wx_aload_n (pc := 11) d_Ln_init_11 rfl rfl ?_
  refine wx_iconst (pc := 12) (v := 5) d_Ln_init_12 (by decide) ?_
  refine wx_newI (pc := 13) (a := 12) (N := 5) (sh2 := sA (sLm 3 9) 10 0 fLb 1 2) d_Ln_init_13 (by decide) rfl (by decide) kw_int rfl rfl (Nat.le_of_ble_eq_true rfl) (Nat.le_of_ble_eq_true rfl) (Nat.le_of_ble_eq_true rfl) (Nat.le_of_ble_eq_true rfl) (fun _ => rfl) ?_
  refine wx_putR (pc := 15) (sh2 := sA (sLm 3 9) 10 0 fLb 2 2) (ty := t_Ln 1) (ci := 0) (k := 1) d_Ln_init_15 rfl rfl ig_Ln t_Ln t_Ln_ok n_Ln (by decide) fl_Ln_15 rfl rfl rfl (t_Ln_ok 1 (by decide)) (fun _ => rfl) (fun _ => rfl) rfl rfl rfl rfl ?_
  refine wx_aload_n (pc := 18) d_Ln_init_18 rfl rfl ?_
  refine wx_iconst (pc := 19) (v := 5) d_Ln_init_19 (by decide) ?_
  refine wx_newI (pc := 20) (a := 13) (N := 5) (sh2 := sA (sLm 3 9) 10 0 fLb 2 3) d_Ln_init_20 (by decide) rfl (by decide) kw_int rfl rfl (Nat.le_of_ble_eq_true rfl) (Nat.le_of_ble_eq_true rfl) (Nat.le_of_ble_eq_true rfl) (Nat.le_of_ble_eq_true rfl) (fun _ => rfl) ?_
  refine wx_putR (pc := 22) (sh2 := sA (sLm 3 9) 10 0 fLb 3 3) (ty := t_Ln 2) (ci := 0) (k := 2) d_Ln_init_22 rfl rfl ig_Ln t_Ln t_Ln_ok n_Ln (by decide) fl_Ln_18 rfl rfl rfl (t_Ln_ok 2 (by decide)) (fun _ => rfl) (fun _ => rfl) rfl rfl rfl rfl ?_
  refine wx_aload_n (pc := 25) d_Ln_init_25 rfl rfl ?_
  refine wx_iconst (pc := 26) (v := 5) d_Ln_init_26 (by decide) ?_
  refine wx_newI (pc := 27) (a := 14) (N := 5) (sh2 := sA (sLm 3 9) 10 0 fLb 3 4) d_Ln_init_27 (by decide) rfl (by decide) kw_int rfl rfl (Nat.le_of_ble_eq_true rfl) (Nat.le_of_ble_eq_true rfl) (Nat.le_of_ble_eq_true rfl) (Nat.le_of_ble_eq_true rfl) (fun _ => rfl) ?_
  refine wx_putR (pc := 29) (sh2 := sA (sLm 3 9) 10 0 fLb 4 4) (ty := t_Ln 3) (ci := 0) (k := 3) d_Ln_init_29 rfl rfl ig_Ln t_Ln t_Ln_ok n_Ln (by decide) fl_Ln_21 rfl rfl rfl (t_Ln_ok 3 (by decide)) (fun _ => rfl) (fun _ => rfl) rfl rfl rfl rfl ?_
  refine wx_aload_n (pc := 32) d_Ln_init_32 rfl rfl ?_
  refine wx_bipush (pc := 33) (v := 6) d_Ln_init_33 (by decide) ?_
  refine wx_newI (pc := 35) (a := 15) (N := 6) (sh2 := sA (sLm 3 9) 10 0 fLb 4 5) d_Ln_init_35 (by decide) rfl (by decide) kw_int rfl rfl (Nat.le_of_ble_eq_true rfl) (Nat.le_of_ble_eq_true rfl) (Nat.le_of_ble_eq_true rfl) (Nat.le_of_ble_eq_true rfl) (fun _ => rfl) ?_
  refine wx_putR (pc := 37) (sh2 := sA (sLm 3 9) 10 0 fLb 5 5) (ty := t_Ln 4) (ci := 0) (k := 4) d_Ln_init_37 rfl rfl ig_Ln t_Ln t_Ln_ok n_Ln (by decide) fl_Ln_24 rfl rfl rfl (t_Ln_ok 4 (by decide)) (fun _ => rfl) (fun _ => rfl) rfl rfl rfl rfl ?_
  refine wx_aload_n (pc := 40) d_Ln_init_40 rfl rfl ?_
  refine wx_bipush (pc := 41) (v := 6) d_Ln_init_41 (by decide) ?_
  refine wx_newI (pc := 43) (a := 16) (N := 6) (sh2 := sA (sLm 3 9) 10 0 fLb 5 6) d_Ln_init_43 (by decide) rfl (by decide) kw_int rfl rfl (Nat.le_of_ble_eq_true rfl) (Nat.le_of_ble_eq_true rfl) (Nat.le_of_ble_eq_true rfl) (Nat.le_of_ble_eq_true rfl) (fun _ => rfl) ?_
  refine wx_putR (pc := 45) (sh2 := sA (sLm 3 9) 10 0 fLb 6 6) (ty := t_Ln 5) (ci := 0) (k := 5) d_Ln_init_45 rfl rfl ig_Ln t_Ln t_Ln_ok n_Ln (by decide) fl_Ln_27 rfl rfl rfl (t_Ln_ok 5 (by decide)) (fun _ => rfl) (fun _ => rfl) rfl rfl rfl rfl ?_
  refine wx_aload_n (pc := 48) d_Ln_init_48 rfl rfl ?_
  refine wx_iconst (pc := 49) (v := 0) d_Ln_init_49 (by decide) ?_
  refine wx_putI (pc := 50) (ci := 0) (k := 6) d_Ln_init_50 rfl rfl ig_Ln t_Ln t_Ln_ok n_Ln (by decide) fl_Ln_30 rfl (by decide +kernel) rfl ?_
  refine wx_aload_n (pc := 53) d_Ln_init_53 rfl rfl ?_
  refine wx_iconst (pc := 54) (v := 0) d_Ln_init_54 (by decide) ?_
  refine wx_putI (pc := 55) (ci := 0) (k := 7) d_Ln_init_55 rfl rfl ig_Ln t_Ln t_Ln_ok n_Ln (by decide) fl_Ln_34 rfl (by decide +kernel) rfl ?_
  refine wx_aload_n (pc := 58) d_Ln_init_58 rfl rfl ?_
  refine wx_iconst (pc := 59) (v := 1) d_Ln_init_59 (by decide) ?_
  refine wx_putI (pc := 60) (ci := 0) (k := 8) d_Ln_init_60 rfl rfl ig_Ln t_Ln t_Ln_ok n_Ln (by decide) fl_Ln_37 rfl (by decide +kernel) rfl ?_
  refine wx_aload_n (pc := 63) d_Ln_init_63 rfl rfl ?_
  refine wx_bipush (pc := 64) (v := 9) d_Ln_init_64 (by decide) ?_
  refine wx_putI (pc := 66) (ci := 0) (k := 9) d_Ln_init_66 rfl rfl ig_Ln t_Ln t_Ln_ok n_Ln (by decide) fl_Ln_40 rfl (by decide +kernel) rfl ?_
  refine wx_aload_n (pc := 69) d_Ln_init_69 rfl rfl ?_
  refine wx_iconst (pc := 70) (v := 0) d_Ln_init_70 (by decide) ?_
  refine wx_putI (pc := 71) (ci := 0) (k := 10) d_Ln_init_71 rfl rfl ig_Ln t_Ln t_Ln_ok n_Ln (by decide) fl_Ln_43 rfl (by decide +kernel) rfl ?_
  refine wx_aload_n (pc := 74) d_Ln_init_74 rfl rfl ?_
  refine wx_iconst (pc := 75) (v := 5) d_Ln_init_75 (by decide) ?_
  refine wx_newI (pc := 76) (a := 17) (N := 5) (sh2 := sA (sLm 3 9) 10 0 fLb 6 7) d_Ln_init_76 (by decide) rfl (by decide) kw_int rfl rfl (Nat.le_of_ble_eq_true rfl) (Nat.le_of_ble_eq_true rfl) (Nat.le_of_ble_eq_true rfl) (Nat.le_of_ble_eq_true rfl) (fun _ => rfl) ?_
  refine wx_putR (pc := 78) (sh2 := sA (sLm 3 9) 10 0 fLb 12 7) (ty := t_Ln 11) (ci := 0) (k := 11) d_Ln_init_78 rfl rfl ig_Ln t_Ln t_Ln_ok n_Ln (by decide) fl_Ln_46 rfl rfl rfl (t_Ln_ok 11 (by decide)) (fun _ => rfl) (fun _ => rfl) rfl rfl rfl rfl ?_
  refine wx_vret (pc := 81) d_Ln_init_81 rfl ⟨(Nat.le_of_ble_eq_true rfl), (Nat.le_of_ble_eq_true rfl)⟩ ⟨rfl, rfl, rfl⟩
theorem c_Lm_init {l : Launch} {D : va_G} {base : Nat} : SX l D base M_Lm_init (sLm 0 0) [.ref 0] zH (fun sh2 h2 r => sh2 = SH.take 42 ∧ h2 = hA9 ∧ r = none) := by
  refine SX.of [some (.ref 0)] (by decide) rfl (Nat.le_of_ble_eq_true rfl) ?_
  refine wx_aload_n (pc := 0) d_Lm_init_0 rfl rfl ?_
  refine wx_objI (pc := 1) d_Lm_init_1 kw_oLm kw_oi kw_oc (by decide) (Nat.le_of_ble_eq_true rfl) ?_
  refine wx_aload_n (pc := 4) d_Lm_init_4 rfl rfl ?_
  refine wx_bipush (pc := 5) (v := 56) d_Lm_init_5 (by decide) ?_
  refine wx_newI (pc := 7) (a := 1) (N := 56) (sh2 := sLm 0 1) d_Lm_init_7 (by decide) rfl (by decide) kw_int rfl rfl (Nat.le_of_ble_eq_true rfl) (Nat.le_of_ble_eq_true rfl) (Nat.le_of_ble_eq_true rfl) (Nat.le_of_ble_eq_true rfl) (fun _ => rfl) ?_
  refine wx_putR (pc := 9) (sh2 := sLm 1 1) (ty := t_Lm 0) (ci := 2) (k := 0) d_Lm_init_9 rfl rfl ig_Lm t_Lm t_Lm_ok n_Lm (by decide) fl_Lm_9 rfl rfl rfl (t_Lm_ok 0 (by decide)) (fun _ => rfl) (fun _ => rfl) rfl rfl rfl rfl ?_
  refine wx_aload_n (pc := 12) d_Lm_init_12 rfl rfl ?_
  refine wx_iconst (pc := 13) (v := 0) d_Lm_init_13 (by decide) ?_
  refine wx_putI (pc := 14) (ci := 2) (k := 1) d_Lm_init_14 rfl rfl ig_Lm t_Lm t_Lm_ok n_Lm (by decide) fl_Lm_13 rfl (by decide +kernel) rfl ?_
  refine wx_aload_n (pc := 17) d_Lm_init_17 rfl rfl ?_
  refine wx_newO (pc := 18) (a := 2) (ci := 0) (fl := fD fLa 0) (sh2 := sA (sLm 1 1) 2 0 fLa 0 0) d_Lm_init_18 rfl ig_Ln t_Ln t_Ln_ok kw_l17 kn_Ln ke_Ln rfl rfl rfl (Nat.le_of_ble_eq_true rfl) (Nat.le_of_ble_eq_true rfl) (Nat.le_of_ble_eq_true rfl) (Nat.le_of_ble_eq_true rfl) (fun _ => rfl) ?_
  refine wx_dup (pc := 21) d_Lm_init_21 rfl ?_
  refine wx_callIN (pc := 22) (host := "LampMoths") d_Lm_init_22 k_Ln_init ⟨by decide, by decide⟩ (fun U hU => hU.2.1) rfl rfl ki_Ln_init c_La_init (Nat.le_of_ble_eq_true rfl) ⟨(Nat.le_of_ble_eq_true rfl), (Nat.le_of_ble_eq_true rfl)⟩ (fun sh2 h2 r e => ?_)
  obtain ⟨rfl, rfl, rfl⟩ := e
  refine ⟨⟨rfl, rfl⟩, ?_⟩
  refine wx_sh (sh2 := sLm 1 9) rfl rfl ?_
  refine wx_putR (pc := 25) (sh2 := sLm 3 9) (ty := t_Lm 2) (ci := 2) (k := 2) d_Lm_init_25 rfl rfl ig_Lm t_Lm t_Lm_ok n_Lm (by decide) fl_Lm_20 rfl rfl rfl (t_Lm_ok 2 (by decide)) (fun _ => rfl) (fun _ => rfl) rfl rfl rfl rfl ?_
  refine wx_aload_n (pc := 28) d_Lm_init_28 rfl rfl ?_
  refine wx_newO (pc := 29) (a := 10) (ci := 0) (fl := fD fLb 0) (sh2 := sA (sLm 3 9) 10 0 fLb 0 0) d_Lm_init_29 rfl ig_Ln t_Ln t_Ln_ok kw_l17 kn_Ln ke_Ln rfl rfl rfl (Nat.le_of_ble_eq_true rfl) (Nat.le_of_ble_eq_true rfl) (Nat.le_of_ble_eq_true rfl) (Nat.le_of_ble_eq_true rfl) (fun _ => rfl) ?_
  refine wx_dup (pc := 32) d_Lm_init_32 rfl ?_
  refine wx_callIN (pc := 33) (host := "LampMoths") d_Lm_init_33 k_Ln_init ⟨by decide, by decide⟩ (fun U hU => hU.2.1) rfl rfl ki_Ln_init c_Lb_init (Nat.le_of_ble_eq_true rfl) ⟨(Nat.le_of_ble_eq_true rfl), (Nat.le_of_ble_eq_true rfl)⟩ (fun sh2 h2 r e => ?_)
  obtain ⟨rfl, rfl, rfl⟩ := e
  refine ⟨⟨rfl, rfl⟩, ?_⟩
  refine wx_sh (sh2 := sLm 3 17) rfl rfl ?_
  refine wx_putR (pc := 36) (sh2 := sLm 4 17) (ty := t_Lm 3) (ci := 2) (k := 3) d_Lm_init_36 rfl rfl ig_Lm t_Lm t_Lm_ok n_Lm (by decide) fl_Lm_24 rfl rfl rfl (t_Lm_ok 3 (by decide)) (fun _ => rfl) (fun _ => rfl) rfl rfl rfl rfl ?_
  refine wx_aload_n (pc := 39) d_Lm_init_39 rfl rfl ?_
  refine wx_newO (pc := 40) (a := 18) (ci := 1) (fl := fD fRd 0) (sh2 := sA (sLm 4 17) 18 1 fRd 0 0) d_Lm_init_40 rfl ig_Rd t_Rd t_Rd_ok kw_l27 kn_Rd ke_Rd rfl rfl rfl (Nat.le_of_ble_eq_true rfl) (Nat.le_of_ble_eq_true rfl) (Nat.le_of_ble_eq_true rfl) (Nat.le_of_ble_eq_true rfl) (fun _ => rfl) ?_
  refine wx_dup (pc := 43) d_Lm_init_43 rfl ?_
  refine wx_callIN (pc := 44) (host := "LampMoths") d_Lm_init_44 k_Rd_init ⟨by decide, by decide⟩ (fun U hU => hU.2.2.1) rfl rfl ki_Rd_init c_Rd_init (Nat.le_of_ble_eq_true rfl) ⟨(Nat.le_of_ble_eq_true rfl), (Nat.le_of_ble_eq_true rfl)⟩ (fun sh2 h2 r e => ?_)
  obtain ⟨rfl, rfl, rfl⟩ := e
  refine ⟨⟨rfl, rfl⟩, ?_⟩
  refine wx_sh (sh2 := sLm 4 18) rfl rfl ?_
  refine wx_putR (pc := 47) (sh2 := sLm 5 18) (ty := t_Lm 4) (ci := 2) (k := 4) d_Lm_init_47 rfl rfl ig_Lm t_Lm t_Lm_ok n_Lm (by decide) fl_Lm_30 rfl rfl rfl (t_Lm_ok 4 (by decide)) (fun _ => rfl) (fun _ => rfl) rfl rfl rfl rfl ?_
  refine wx_aload_n (pc := 50) d_Lm_init_50 rfl rfl ?_
  refine wx_bipush (pc := 51) (v := 14) d_Lm_init_51 (by decide) ?_
  refine wx_bipush (pc := 53) (v := 19) d_Lm_init_53 (by decide) ?_
  refine wx_multi (pc := 55) (a := 19) (N := 14) (Mm := 19) (sh2 := sLm 5 33) d_Lm_init_55 kw_l34 kw_int (by decide) (by decide) rfl rfl (by decide) (by decide) rfl rfl (Nat.le_of_ble_eq_true rfl) (Nat.le_of_ble_eq_true rfl) (Nat.le_of_ble_eq_true rfl) (Nat.le_of_ble_eq_true rfl) rfl (fun q j h1 _ => zq_4 q j (by omega)) ?_
  refine wx_putR (pc := 59) (sh2 := sLm 6 33) (ty := t_Lm 5) (ci := 2) (k := 5) d_Lm_init_59 rfl rfl ig_Lm t_Lm t_Lm_ok n_Lm (by decide) fl_Lm_36 rfl rfl rfl (t_Lm_ok 5 (by decide)) (fun _ => rfl) (fun _ => rfl) rfl rfl rfl rfl ?_
  refine wx_aload_n (pc := 62) d_Lm_init_62 rfl rfl ?_
  refine wx_iconst (pc := 63) (v := 0) d_Lm_init_63 (by decide) ?_
  refine wx_putI (pc := 64) (ci := 2) (k := 6) d_Lm_init_64 rfl rfl ig_Lm t_Lm t_Lm_ok n_Lm (by decide) fl_Lm_39 rfl (by decide +kernel) rfl ?_
  refine wx_aload_n (pc := 67) d_Lm_init_67 rfl rfl ?_
  refine wx_iconst (pc := 68) (v := 2) d_Lm_init_68 (by decide) ?_
  refine wx_bipush (pc := 69) (v := 19) d_Lm_init_69 (by decide) ?_
  refine wx_multi (pc := 71) (a := 34) (N := 2) (Mm := 19) (sh2 := sLm 6 36) d_Lm_init_71 kw_l34 kw_int (by decide) (by decide) rfl rfl (by decide) (by decide) rfl rfl (Nat.le_of_ble_eq_true rfl) (Nat.le_of_ble_eq_true rfl) (Nat.le_of_ble_eq_true rfl) (Nat.le_of_ble_eq_true rfl) rfl (fun q j h1 _ => zq_5 q j (by omega)) ?_
  refine wx_putR (pc := 75) (sh2 := sLm 8 36) (ty := t_Lm 7) (ci := 2) (k := 7) d_Lm_init_75 rfl rfl ig_Lm t_Lm t_Lm_ok n_Lm (by decide) fl_Lm_42 rfl rfl rfl (t_Lm_ok 7 (by decide)) (fun _ => rfl) (fun _ => rfl) rfl rfl rfl rfl ?_
  refine wx_aload_n (pc := 78) d_Lm_init_78 rfl rfl ?_
  refine wx_iconst (pc := 79) (v := 2) d_Lm_init_79 (by decide) ?_
  refine wx_newZ (pc := 80) (a := 37) (N := 2) (sh2 := sLm 8 37) d_Lm_init_80 (by decide) rfl (by decide) kw_bool rfl rfl (Nat.le_of_ble_eq_true rfl) (Nat.le_of_ble_eq_true rfl) (Nat.le_of_ble_eq_true rfl) (Nat.le_of_ble_eq_true rfl) (fun _ => rfl) ?_
  refine wx_putR (pc := 82) (sh2 := sLm 9 37) (ty := t_Lm 8) (ci := 2) (k := 8) d_Lm_init_82 rfl rfl ig_Lm t_Lm t_Lm_ok n_Lm (by decide) fl_Lm_45 rfl rfl rfl (t_Lm_ok 8 (by decide)) (fun _ => rfl) (fun _ => rfl) rfl rfl rfl rfl ?_
  refine wx_aload_n (pc := 85) d_Lm_init_85 rfl rfl ?_
  refine wx_bipush (pc := 86) (v := 6) d_Lm_init_86 (by decide) ?_
  refine wx_newI (pc := 88) (a := 38) (N := 6) (sh2 := sLm 9 38) d_Lm_init_88 (by decide) rfl (by decide) kw_int rfl rfl (Nat.le_of_ble_eq_true rfl) (Nat.le_of_ble_eq_true rfl) (Nat.le_of_ble_eq_true rfl) (Nat.le_of_ble_eq_true rfl) (fun _ => rfl) ?_
  refine wx_putR (pc := 90) (sh2 := sLm 10 38) (ty := t_Lm 9) (ci := 2) (k := 9) d_Lm_init_90 rfl rfl ig_Lm t_Lm t_Lm_ok n_Lm (by decide) fl_Lm_49 rfl rfl rfl (t_Lm_ok 9 (by decide)) (fun _ => rfl) (fun _ => rfl) rfl rfl rfl rfl ?_
  refine wx_aload_n (pc := 93) d_Lm_init_93 rfl rfl ?_
  refine wx_bipush (pc := 94) (v := 6) d_Lm_init_94 (by decide) ?_
  refine wx_newI (pc := 96) (a := 39) (N := 6) (sh2 := sLm 10 39) d_Lm_init_96 (by decide) rfl (by decide) kw_int rfl rfl (Nat.le_of_ble_eq_true rfl) (Nat.le_of_ble_eq_true rfl) (Nat.le_of_ble_eq_true rfl) (Nat.le_of_ble_eq_true rfl) (fun _ => rfl) ?_
  refine wx_putR (pc := 98) (sh2 := sLm 11 39) (ty := t_Lm 10) (ci := 2) (k := 10) d_Lm_init_98 rfl rfl ig_Lm t_Lm t_Lm_ok n_Lm (by decide) fl_Lm_52 rfl rfl rfl (t_Lm_ok 10 (by decide)) (fun _ => rfl) (fun _ => rfl) rfl rfl rfl rfl ?_
  refine wx_aload_n (pc := 101) d_Lm_init_101 rfl rfl ?_
  refine wx_bipush (pc := 102) (v := 6) d_Lm_init_102 (by decide) ?_
  refine wx_newI (pc := 104) (a := 40) (N := 6) (sh2 := sLm 11 40) d_Lm_init_104 (by decide) rfl (by decide) kw_int rfl rfl (Nat.le_of_ble_eq_true rfl) (Nat.le_of_ble_eq_true rfl) (Nat.le_of_ble_eq_true rfl) (Nat.le_of_ble_eq_true rfl) (fun _ => rfl) ?_
  refine wx_putR (pc := 106) (sh2 := sLm 12 40) (ty := t_Lm 11) (ci := 2) (k := 11) d_Lm_init_106 rfl rfl ig_Lm t_Lm t_Lm_ok n_Lm (by decide) fl_Lm_55 rfl rfl rfl (t_Lm_ok 11 (by decide)) (fun _ => rfl) (fun _ => rfl) rfl rfl rfl rfl ?_
  refine wx_aload_n (pc := 109) d_Lm_init_109 rfl rfl ?_
  refine wx_iconst (pc := 110) (v := 0) d_Lm_init_110 (by decide) ?_
  refine wx_putI (pc := 111) (ci := 2) (k := 12) d_Lm_init_111 rfl rfl ig_Lm t_Lm t_Lm_ok n_Lm (by decide) fl_Lm_58 rfl (by decide +kernel) rfl ?_
  refine wx_aload_n (pc := 114) d_Lm_init_114 rfl rfl ?_
  refine wx_bipush (pc := 115) (v := 32) d_Lm_init_115 (by decide) ?_
  refine wx_newI (pc := 117) (a := 41) (N := 32) (sh2 := sLm 12 41) d_Lm_init_117 (by decide) rfl (by decide) kw_int rfl rfl (Nat.le_of_ble_eq_true rfl) (Nat.le_of_ble_eq_true rfl) (Nat.le_of_ble_eq_true rfl) (Nat.le_of_ble_eq_true rfl) (fun _ => rfl) ?_
  refine wx_putR (pc := 119) (sh2 := sLm 14 41) (ty := t_Lm 13) (ci := 2) (k := 13) d_Lm_init_119 rfl rfl ig_Lm t_Lm t_Lm_ok n_Lm (by decide) fl_Lm_61 rfl rfl rfl (t_Lm_ok 13 (by decide)) (fun _ => rfl) (fun _ => rfl) rfl rfl rfl rfl ?_
  refine wx_aload_n (pc := 122) d_Lm_init_122 rfl rfl ?_
  refine wx_lconst (pc := 123) (v := 0) d_Lm_init_123 (by decide) ?_
  refine wx_putL (pc := 124) (ci := 2) (k := 14) d_Lm_init_124 rfl rfl ig_Lm t_Lm t_Lm_ok n_Lm (by decide) fl_Lm_64 rfl (by decide +kernel) rfl ?_
  refine wx_vret (pc := 127) d_Lm_init_127 rfl ⟨(Nat.le_of_ble_eq_true rfl), (Nat.le_of_ble_eq_true rfl)⟩ ⟨rfl, rfl, rfl⟩
theorem c_Md_init {l : Launch} {D : va_G} {base : Nat} : SX l D base M_Md_init (sMd 0 0) [.ref 42] hA9 (fun sh2 h2 r => sh2 = SH ∧ h2 = hB2 ∧ r = none) := by
  refine SX.of [some (.ref 42)] (by decide) rfl (Nat.le_of_ble_eq_true rfl) ?_
  refine wx_aload_n (pc := 0) d_Md_init_0 rfl rfl ?_
  refine wx_objI (pc := 1) d_Md_init_1 kw_oMd kw_oi kw_oc (by decide) (Nat.le_of_ble_eq_true rfl) ?_
  refine wx_aload_n (pc := 4) d_Md_init_4 rfl rfl ?_
  refine wx_bipush (pc := 5) (v := 56) d_Md_init_5 (by decide) ?_
  refine wx_newI (pc := 7) (a := 43) (N := 56) (sh2 := sMd 0 1) d_Md_init_7 (by decide) rfl (by decide) kw_int rfl rfl (Nat.le_of_ble_eq_true rfl) (Nat.le_of_ble_eq_true rfl) (Nat.le_of_ble_eq_true rfl) (Nat.le_of_ble_eq_true rfl) (fun _ => rfl) ?_
  refine wx_putR (pc := 9) (sh2 := sMd 2 1) (ty := t_Md 1) (ci := 3) (k := 1) d_Md_init_9 rfl rfl ig_Md t_Md t_Md_ok n_Md (by decide) fl_Md_7 rfl rfl rfl (t_Md_ok 1 (by decide)) (fun _ => rfl) (fun _ => rfl) rfl rfl rfl rfl ?_
  refine wx_aload_n (pc := 12) d_Md_init_12 rfl rfl ?_
  refine wx_iconst (pc := 13) (v := 5) d_Md_init_13 (by decide) ?_
  refine wx_newI (pc := 14) (a := 44) (N := 5) (sh2 := sMd 2 2) d_Md_init_14 (by decide) rfl (by decide) kw_int rfl rfl (Nat.le_of_ble_eq_true rfl) (Nat.le_of_ble_eq_true rfl) (Nat.le_of_ble_eq_true rfl) (Nat.le_of_ble_eq_true rfl) (fun _ => rfl) ?_
  refine wx_putR (pc := 16) (sh2 := sMd 6 2) (ty := t_Md 5) (ci := 3) (k := 5) d_Md_init_16 rfl rfl ig_Md t_Md t_Md_ok n_Md (by decide) fl_Md_13 rfl rfl rfl (t_Md_ok 5 (by decide)) (fun _ => rfl) (fun _ => rfl) rfl rfl rfl rfl ?_
  refine wx_aload_n (pc := 19) d_Md_init_19 rfl rfl ?_
  refine wx_bipush (pc := 20) (v := 6) d_Md_init_20 (by decide) ?_
  refine wx_newI (pc := 22) (a := 45) (N := 6) (sh2 := sMd 6 3) d_Md_init_22 (by decide) rfl (by decide) kw_int rfl rfl (Nat.le_of_ble_eq_true rfl) (Nat.le_of_ble_eq_true rfl) (Nat.le_of_ble_eq_true rfl) (Nat.le_of_ble_eq_true rfl) (fun _ => rfl) ?_
  refine wx_putR (pc := 24) (sh2 := sMd 8 3) (ty := t_Md 7) (ci := 3) (k := 7) d_Md_init_24 rfl rfl ig_Md t_Md t_Md_ok n_Md (by decide) fl_Md_16 rfl rfl rfl (t_Md_ok 7 (by decide)) (fun _ => rfl) (fun _ => rfl) rfl rfl rfl rfl ?_
  refine wx_aload_n (pc := 27) d_Md_init_27 rfl rfl ?_
  refine wx_bipush (pc := 28) (v := 15) d_Md_init_28 (by decide) ?_
  refine wx_newI (pc := 30) (a := 46) (N := 15) (sh2 := sMd 8 4) d_Md_init_30 (by decide) rfl (by decide) kw_int rfl rfl (Nat.le_of_ble_eq_true rfl) (Nat.le_of_ble_eq_true rfl) (Nat.le_of_ble_eq_true rfl) (Nat.le_of_ble_eq_true rfl) (fun _ => rfl) ?_
  refine wx_putR (pc := 32) (sh2 := sMd 12 4) (ty := t_Md 11) (ci := 3) (k := 11) d_Md_init_32 rfl rfl ig_Md t_Md t_Md_ok n_Md (by decide) fl_Md_19 rfl rfl rfl (t_Md_ok 11 (by decide)) (fun _ => rfl) (fun _ => rfl) rfl rfl rfl rfl ?_
  refine wx_aload_n (pc := 35) d_Md_init_35 rfl rfl ?_
  refine wx_bipush (pc := 36) (v := 12) d_Md_init_36 (by decide) ?_
  refine wx_newI (pc := 38) (a := 47) (N := 12) (sh2 := sMd 12 5) d_Md_init_38 (by decide) rfl (by decide) kw_int rfl rfl (Nat.le_of_ble_eq_true rfl) (Nat.le_of_ble_eq_true rfl) (Nat.le_of_ble_eq_true rfl) (Nat.le_of_ble_eq_true rfl) (fun _ => rfl) ?_
  refine wx_putR (pc := 40) (sh2 := sMd 14 5) (ty := t_Md 13) (ci := 3) (k := 13) d_Md_init_40 rfl rfl ig_Md t_Md t_Md_ok n_Md (by decide) fl_Md_22 rfl rfl rfl (t_Md_ok 13 (by decide)) (fun _ => rfl) (fun _ => rfl) rfl rfl rfl rfl ?_
  refine wx_aload_n (pc := 43) d_Md_init_43 rfl rfl ?_
  refine wx_bipush (pc := 44) (v := 24) d_Md_init_44 (by decide) ?_
  refine wx_newI (pc := 46) (a := 48) (N := 24) (sh2 := sMd 14 6) d_Md_init_46 (by decide) rfl (by decide) kw_int rfl rfl (Nat.le_of_ble_eq_true rfl) (Nat.le_of_ble_eq_true rfl) (Nat.le_of_ble_eq_true rfl) (Nat.le_of_ble_eq_true rfl) (fun _ => rfl) ?_
  refine wx_putR (pc := 48) (sh2 := sMd 15 6) (ty := t_Md 14) (ci := 3) (k := 14) d_Md_init_48 rfl rfl ig_Md t_Md t_Md_ok n_Md (by decide) fl_Md_25 rfl rfl rfl (t_Md_ok 14 (by decide)) (fun _ => rfl) (fun _ => rfl) rfl rfl rfl rfl ?_
  refine wx_aload_n (pc := 51) d_Md_init_51 rfl rfl ?_
  refine wx_bipush (pc := 52) (v := 24) d_Md_init_52 (by decide) ?_
  refine wx_newI (pc := 54) (a := 49) (N := 24) (sh2 := sMd 15 7) d_Md_init_54 (by decide) rfl (by decide) kw_int rfl rfl (Nat.le_of_ble_eq_true rfl) (Nat.le_of_ble_eq_true rfl) (Nat.le_of_ble_eq_true rfl) (Nat.le_of_ble_eq_true rfl) (fun _ => rfl) ?_
  refine wx_putR (pc := 56) (sh2 := sMd 16 7) (ty := t_Md 15) (ci := 3) (k := 15) d_Md_init_56 rfl rfl ig_Md t_Md t_Md_ok n_Md (by decide) fl_Md_28 rfl rfl rfl (t_Md_ok 15 (by decide)) (fun _ => rfl) (fun _ => rfl) rfl rfl rfl rfl ?_
  refine wx_aload_n (pc := 59) d_Md_init_59 rfl rfl ?_
  refine wx_sipush (pc := 60) (v := 336) d_Md_init_60 (by decide) ?_
  refine wx_newI (pc := 63) (a := 50) (N := 336) (sh2 := sMd 16 8) d_Md_init_63 (by decide) rfl (by decide) kw_int rfl rfl (Nat.le_of_ble_eq_true rfl) (Nat.le_of_ble_eq_true rfl) (Nat.le_of_ble_eq_true rfl) (Nat.le_of_ble_eq_true rfl) (fun _ => rfl) ?_
  refine wx_putR (pc := 65) (sh2 := sMd 17 8) (ty := t_Md 16) (ci := 3) (k := 16) d_Md_init_65 rfl rfl ig_Md t_Md t_Md_ok n_Md (by decide) fl_Md_31 rfl rfl rfl (t_Md_ok 16 (by decide)) (fun _ => rfl) (fun _ => rfl) rfl rfl rfl rfl ?_
  refine wx_aload_n (pc := 68) d_Md_init_68 rfl rfl ?_
  refine wx_bipush (pc := 69) (v := 48) d_Md_init_69 (by decide) ?_
  refine wx_newI (pc := 71) (a := 51) (N := 48) (sh2 := sMd 17 9) d_Md_init_71 (by decide) rfl (by decide) kw_int rfl rfl (Nat.le_of_ble_eq_true rfl) (Nat.le_of_ble_eq_true rfl) (Nat.le_of_ble_eq_true rfl) (Nat.le_of_ble_eq_true rfl) (fun _ => rfl) ?_
  refine wx_putR (pc := 73) (sh2 := sMd 19 9) (ty := t_Md 18) (ci := 3) (k := 18) d_Md_init_73 rfl rfl ig_Md t_Md t_Md_ok n_Md (by decide) fl_Md_34 rfl rfl rfl (t_Md_ok 18 (by decide)) (fun _ => rfl) (fun _ => rfl) rfl rfl rfl rfl ?_
  refine wx_aload_n (pc := 76) d_Md_init_76 rfl rfl ?_
  refine wx_iconst (pc := 77) (v := 2) d_Md_init_77 (by decide) ?_
  refine wx_newZ (pc := 78) (a := 52) (N := 2) (sh2 := sMd 19 10) d_Md_init_78 (by decide) rfl (by decide) kw_bool rfl rfl (Nat.le_of_ble_eq_true rfl) (Nat.le_of_ble_eq_true rfl) (Nat.le_of_ble_eq_true rfl) (Nat.le_of_ble_eq_true rfl) (fun _ => rfl) ?_
  refine wx_putR (pc := 80) (sh2 := sMd 20 10) (ty := t_Md 19) (ci := 3) (k := 19) d_Md_init_80 rfl rfl ig_Md t_Md t_Md_ok n_Md (by decide) fl_Md_37 rfl rfl rfl (t_Md_ok 19 (by decide)) (fun _ => rfl) (fun _ => rfl) rfl rfl rfl rfl ?_
  refine wx_aload_n (pc := 83) d_Md_init_83 rfl rfl ?_
  refine wx_bipush (pc := 84) (v := 6) d_Md_init_84 (by decide) ?_
  refine wx_newI (pc := 86) (a := 53) (N := 6) (sh2 := sMd 20 11) d_Md_init_86 (by decide) rfl (by decide) kw_int rfl rfl (Nat.le_of_ble_eq_true rfl) (Nat.le_of_ble_eq_true rfl) (Nat.le_of_ble_eq_true rfl) (Nat.le_of_ble_eq_true rfl) (fun _ => rfl) ?_
  refine wx_putR (pc := 88) (sh2 := sMd 22 11) (ty := t_Md 21) (ci := 3) (k := 21) d_Md_init_88 rfl rfl ig_Md t_Md t_Md_ok n_Md (by decide) fl_Md_41 rfl rfl rfl (t_Md_ok 21 (by decide)) (fun _ => rfl) (fun _ => rfl) rfl rfl rfl rfl ?_
  refine wx_aload_n (pc := 91) d_Md_init_91 rfl rfl ?_
  refine wx_bipush (pc := 92) (v := 6) d_Md_init_92 (by decide) ?_
  refine wx_newI (pc := 94) (a := 54) (N := 6) (sh2 := sMd 22 12) d_Md_init_94 (by decide) rfl (by decide) kw_int rfl rfl (Nat.le_of_ble_eq_true rfl) (Nat.le_of_ble_eq_true rfl) (Nat.le_of_ble_eq_true rfl) (Nat.le_of_ble_eq_true rfl) (fun _ => rfl) ?_
  refine wx_putR (pc := 96) (sh2 := sMd 23 12) (ty := t_Md 22) (ci := 3) (k := 22) d_Md_init_96 rfl rfl ig_Md t_Md t_Md_ok n_Md (by decide) fl_Md_44 rfl rfl rfl (t_Md_ok 22 (by decide)) (fun _ => rfl) (fun _ => rfl) rfl rfl rfl rfl ?_
  refine wx_aload_n (pc := 99) d_Md_init_99 rfl rfl ?_
  refine wx_bipush (pc := 100) (v := 6) d_Md_init_100 (by decide) ?_
  refine wx_newI (pc := 102) (a := 55) (N := 6) (sh2 := sMd 23 13) d_Md_init_102 (by decide) rfl (by decide) kw_int rfl rfl (Nat.le_of_ble_eq_true rfl) (Nat.le_of_ble_eq_true rfl) (Nat.le_of_ble_eq_true rfl) (Nat.le_of_ble_eq_true rfl) (fun _ => rfl) ?_
  refine wx_putR (pc := 104) (sh2 := sMd 24 13) (ty := t_Md 23) (ci := 3) (k := 23) d_Md_init_104 rfl rfl ig_Md t_Md t_Md_ok n_Md (by decide) fl_Md_47 rfl rfl rfl (t_Md_ok 23 (by decide)) (fun _ => rfl) (fun _ => rfl) rfl rfl rfl rfl ?_
  refine wx_aload_n (pc := 107) d_Md_init_107 rfl rfl ?_
  refine wx_bipush (pc := 108) (v := 6) d_Md_init_108 (by decide) ?_
  refine wx_newI (pc := 110) (a := 56) (N := 6) (sh2 := sMd 24 14) d_Md_init_110 (by decide) rfl (by decide) kw_int rfl rfl (Nat.le_of_ble_eq_true rfl) (Nat.le_of_ble_eq_true rfl) (Nat.le_of_ble_eq_true rfl) (Nat.le_of_ble_eq_true rfl) (fun _ => rfl) ?_
  refine wx_putR (pc := 112) (sh2 := sMd 26 14) (ty := t_Md 25) (ci := 3) (k := 25) d_Md_init_112 rfl rfl ig_Md t_Md t_Md_ok n_Md (by decide) fl_Md_50 rfl rfl rfl (t_Md_ok 25 (by decide)) (fun _ => rfl) (fun _ => rfl) rfl rfl rfl rfl ?_
  refine wx_aload_n (pc := 115) d_Md_init_115 rfl rfl ?_
  refine wx_iconst (pc := 116) (v := 5) d_Md_init_116 (by decide) ?_
  refine wx_newI (pc := 117) (a := 57) (N := 5) (sh2 := sMd 26 15) d_Md_init_117 (by decide) rfl (by decide) kw_int rfl rfl (Nat.le_of_ble_eq_true rfl) (Nat.le_of_ble_eq_true rfl) (Nat.le_of_ble_eq_true rfl) (Nat.le_of_ble_eq_true rfl) (fun _ => rfl) ?_
  refine wx_putR (pc := 119) (sh2 := sMd 27 15) (ty := t_Md 26) (ci := 3) (k := 26) d_Md_init_119 rfl rfl ig_Md t_Md t_Md_ok n_Md (by decide) fl_Md_53 rfl rfl rfl (t_Md_ok 26 (by decide)) (fun _ => rfl) (fun _ => rfl) rfl rfl rfl rfl ?_
  refine wx_aload_n (pc := 122) d_Md_init_122 rfl rfl ?_
  refine wx_bipush (pc := 123) (v := 8) d_Md_init_123 (by decide) ?_
  refine wx_newI (pc := 125) (a := 58) (N := 8) (sh2 := sMd 27 16) d_Md_init_125 (by decide) rfl (by decide) kw_int rfl rfl (Nat.le_of_ble_eq_true rfl) (Nat.le_of_ble_eq_true rfl) (Nat.le_of_ble_eq_true rfl) (Nat.le_of_ble_eq_true rfl) (fun _ => rfl) ?_
  refine wx_putR (pc := 127) (sh2 := sMd 34 16) (ty := t_Md 33) (ci := 3) (k := 33) d_Md_init_127 rfl rfl ig_Md t_Md t_Md_ok n_Md (by decide) fl_Md_56 rfl rfl rfl (t_Md_ok 33 (by decide)) (fun _ => rfl) (fun _ => rfl) rfl rfl rfl rfl ?_
  refine wx_aload_n (pc := 130) d_Md_init_130 rfl rfl ?_
  refine wx_bipush (pc := 131) (v := 32) d_Md_init_131 (by decide) ?_
  refine wx_newI (pc := 133) (a := 59) (N := 32) (sh2 := sMd 34 17) d_Md_init_133 (by decide) rfl (by decide) kw_int rfl rfl (Nat.le_of_ble_eq_true rfl) (Nat.le_of_ble_eq_true rfl) (Nat.le_of_ble_eq_true rfl) (Nat.le_of_ble_eq_true rfl) (fun _ => rfl) ?_
  refine wx_putR (pc := 135) (sh2 := sMd 35 17) (ty := t_Md 34) (ci := 3) (k := 34) d_Md_init_135 rfl rfl ig_Md t_Md t_Md_ok n_Md (by decide) fl_Md_59 rfl rfl rfl (t_Md_ok 34 (by decide)) (fun _ => rfl) (fun _ => rfl) rfl rfl rfl rfl ?_
  refine wx_aload_n (pc := 138) d_Md_init_138 rfl rfl ?_
  refine wx_get (pc := 139) (ci := 3) (k := 14) (v := .ref 48) d_Md_init_139 rfl rfl ig_Md (by decide) fl_Md_25 rfl (fun _ => rfl) ?_
  refine wx_bipush (pc := 142) (v := 16) d_Md_init_142 (by decide) ?_
  refine wx_iconst (pc := 144) (v := 1) d_Md_init_144 (by decide) ?_
  refine wx_iast (pc := 145) d_Md_init_145 rfl (by unfold vp_in; decide) ?_
  refine wx_aload_n (pc := 146) d_Md_init_146 rfl rfl ?_
  refine wx_get (pc := 147) (ci := 3) (k := 14) (v := .ref 48) d_Md_init_147 rfl rfl ig_Md (by decide) fl_Md_25 rfl (fun _ => rfl) ?_
  refine wx_bipush (pc := 150) (v := 17) d_Md_init_150 (by decide) ?_
  refine wx_bipush (pc := 152) (v := 9) d_Md_init_152 (by decide) ?_
  refine wx_iast (pc := 154) d_Md_init_154 rfl (by unfold vp_in; decide) ?_
  refine wx_vret (pc := 155) d_Md_init_155 rfl ⟨(Nat.le_of_ble_eq_true rfl), (Nat.le_of_ble_eq_true rfl)⟩ ⟨rfl, rfl, rfl⟩

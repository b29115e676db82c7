/-! the start: what both constructors leave agrees -/
theorem rw_0 {i : Nat} (hi : i < 14) : gR hB2 19 i = some (20 + i) := by
  show (if (19 : Nat) = 34 then (if i < 2 then some (34 + 1 + i) else none) else if (19 : Nat) = 19 then (if i < 14 then some (19 + 1 + i) else none) else none) = some (20 + i)
  rw [if_neg (by decide), if_pos rfl, if_pos hi]
theorem rel_0 : Rel hB2 := by
  refine ⟨0, 0, ⟨⟨by decide, rfl, rfl⟩, ⟨by decide, rfl, rfl⟩, fun k hk => absurd hk (Nat.not_lt_zero k), fun k hk => absurd hk (Nat.not_lt_zero k), fun k hk => absurd hk (Nat.not_lt_zero k), fun k _ h5 => ?_, fun k hk => absurd hk (Nat.not_lt_zero k), rfl, rfl, rfl⟩, ⟨fun i hi => ⟨20 + i, rw_0 hi, by omega, by omega⟩, fun i j hi hj e => ?_, rfl, rfl⟩, ⟨0, ⟨by decide, rfl, rfl⟩, fun k hk => absurd hk (Nat.not_lt_zero k)⟩, fun s hs => ⟨rfl, fun q => absurd rfl q⟩, ⟨0, ⟨by decide, rfl, rfl⟩, fun k hk => absurd hk (Nat.not_lt_zero k)⟩, ⟨0, ⟨by decide, rfl, rfl⟩, fun k hk => absurd hk (Nat.not_lt_zero k)⟩, rfl⟩
  · rcases (show k = 0 ∨ k = 1 ∨ k = 2 ∨ k = 3 ∨ k = 4 by omega) with rfl | rfl | rfl | rfl | rfl <;> rfl
  · rw [rw_0 hi, rw_0 hj] at e
    have := Option.some.inj e
    omega
/-- the law from its entry to its loop -/
theorem wq_start {l : Launch} {D : va_G} {base b L : Nat} {xs : Nat → Int32} (hL : L ≤ 256) : WQ l D base b L xs [] 0 [(0, .ref b)] [] zH := by
  refine wq_newO (pc := 0) (a := 0) (ci := 2) (fl := fD fLm 0) (sh2 := sLm 0 0) d_La_law_0 rfl ig_Lm t_Lm t_Lm_ok kl_c7 kn_Lm ke_Lm rfl rfl rfl (Nat.le_of_ble_eq_true rfl) (Nat.le_of_ble_eq_true rfl) (fun _ => rfl) ?_
  refine wq_dup (pc := 3) d_La_law_3 rfl ?_
  refine wq_callI (pc := 4) (b0 := 0) d_La_law_4 k_Lm_init ⟨Nat.le_of_ble_eq_true rfl, Nat.le_of_ble_eq_true rfl⟩ kl_9 rfl rfl ki_Lm_init c_Lm_init (Nat.le_of_ble_eq_true rfl) ⟨Nat.le_of_ble_eq_true rfl, Nat.le_of_ble_eq_true rfl⟩ (fun sh2 h2 r e => ?_)
  obtain ⟨rfl, rfl, rfl⟩ := e
  refine ⟨⟨rfl, rfl⟩, rfl, ?_⟩
  refine wq_astore (pc := 7) (j := 1) (lv2 := [(1, .ref (base + 0)), (0, .ref b)]) d_La_law_7 rfl (by decide) rfl ?_
  refine wq_newO (pc := 8) (a := 42) (ci := 3) (fl := fD fMd 0) (sh2 := sMd 0 0) d_La_law_8 rfl ig_Md t_Md t_Md_ok kl_c10 kn_Md ke_Md rfl rfl rfl (Nat.le_of_ble_eq_true rfl) (Nat.le_of_ble_eq_true rfl) (fun _ => rfl) ?_
  refine wq_dup (pc := 11) d_La_law_11 rfl ?_
  refine wq_callI (pc := 12) (b0 := 42) d_La_law_12 k_Md_init ⟨Nat.le_of_ble_eq_true rfl, Nat.le_of_ble_eq_true rfl⟩ kl_12 rfl rfl ki_Md_init c_Md_init (Nat.le_of_ble_eq_true rfl) ⟨Nat.le_of_ble_eq_true rfl, Nat.le_of_ble_eq_true rfl⟩ (fun sh2 h2 r e => ?_)
  obtain ⟨rfl, rfl, rfl⟩ := e
  refine ⟨⟨rfl, rfl⟩, rfl, ?_⟩
  refine wq_astore (pc := 15) (j := 2) (lv2 := [(2, .ref (base + 42)), (1, .ref (base + 0)), (0, .ref b)]) d_La_law_15 rfl (by decide) rfl ?_
  refine wq_iconst (pc := 16) (v := 0) d_La_law_16 (by decide) ?_
  refine wq_istore (pc := 17) (j := 3) (lv2 := [(3, .int 0), (2, .ref (base + 42)), (1, .ref (base + 0)), (0, .ref b)]) d_La_law_17 rfl (by decide) rfl ?_
  refine wq_sub (lv2 := lvL base b (nI 0)) [3, 2, 1, 0] rfl ?_
  exact law_loop hL (L + 1) 0 hB2 (Nat.zero_le L) (by omega) rel_0
/-- what the tables say of the classes -/
theorem kx_start {s : State} {args : Array Value} (hts : ∀ w ∈ lw_tbl, w.before args s = true) : ∃ D : va_G, KX D s := by
  obtain ⟨c0, iS0, hKn0⟩ := u_known (C := R_Ln) (T := T_Ln) (N := 12) (n := 12) hts i_Ln (hts _ (gt_in kn_Ln))
  obtain ⟨c1, iS1, hKn1⟩ := u_known (C := R_Rd) (T := T_Rd) (N := 3) (n := 3) hts i_Rd (hts _ (gt_in kn_Rd))
  obtain ⟨c2, iS2, hKn2⟩ := u_known (C := R_Lm) (T := T_Lm) (N := 15) (n := 15) hts i_Lm (hts _ (gt_in kn_Lm))
  obtain ⟨c3, iS3, hKn3⟩ := u_known (C := R_Md) (T := T_Md) (N := 35) (n := 35) hts i_Md (hts _ (gt_in kn_Md))
  obtain ⟨c10, k10, m10, f10, g10, kd10⟩ := Cond.arrayClass_spec (hts _ (gt_in kw_int))
  obtain ⟨c11, k11, m11, f11, g11, kd11⟩ := Cond.arrayClass_spec (hts _ (gt_in kw_bool))
  have hA0 : AOA s := hts (.arrayOver (.array .int)) (List.mem_of_getElem? (i := 140) (by decide +kernel))
  obtain ⟨comp, c12, k12, fc, -, g12, kd12, f12⟩ := AOA_spec hA0
  refine ⟨(fun k => if k = 0 then c0 else if k = 1 then c1 else if k = 2 then c2 else if k = 3 then c3 else if k = 10 then c10 else if k = 11 then c11 else c12, fun k => if k = 0 then iS0 else if k = 1 then iS1 else if k = 2 then iS2 else iS3), ⟨fun k q hq => ?_, fun k q hq => ?_⟩, va_Nw.of rfl (hts nw1 (List.mem_of_getElem? (i := 66) (by decide +kernel))), va_Nw.of rfl (hts nw2 (List.mem_of_getElem? (i := 125) (by decide +kernel))), va_Nw.of rfl (hts nw3 (List.mem_of_getElem? (i := 228) (by decide +kernel))), hA0⟩
  · match k, hq with
    | 0, hq => cases hq; exact hKn0
    | 1, hq => cases hq; exact hKn1
    | 2, hq => cases hq; exact hKn2
    | 3, hq => cases hq; exact hKn3
    | k + 4, hq => simp [classes] at hq
  · match k, hq with
    | 0, hq => cases hq; exact ⟨fun n z => ⟨fun k h => (by cases h), k10, g10, m10, kd10⟩, f10⟩
    | 1, hq => cases hq; exact ⟨fun n z => ⟨fun k h => (by cases h), k11, g11, m11, kd11⟩, f11⟩
    | 2, hq => cases hq; exact ⟨fun n z => ⟨fun k h => (by cases h), k12, g12, comp, kd12⟩, f12⟩
    | k + 3, hq => simp [tysG] at hq

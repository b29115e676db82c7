def doB (S : St) (d : Int32) (k : Nat) : Bool := if d = 0 then decide (k = 0) else if d = 1 then decide (canF S (nI k) 1 = 1) else if d = 2 then decide (canF S (nI k) (-1) = 1) else if d = 3 then decide (k < 3 ∧ ¬ S 5 2 = nI k) else if d = 4 then decide (¬ S 5 3 = nI k) else false
def doS (S : St) (d : Int32) (k : Nat) : St := if d = 1 then setS S 1 k (S 1 k + 1) else if d = 2 then setS S 1 k (S 1 k + -1) else if d = 3 then setS S 5 2 (nI k) else if d = 4 then setS S 5 3 (nI k) else S
theorem can_lt {S : St} {k : Nat} {y : Int32} (hk : k < 2 ^ 31) (hw : nW S ≤ 5) (h : canF S (nI k) y = 1) : k < nW S := by
  unfold canF at h
  by_cases c : k < nW S
  · exact c
  · rw [if_pos (Or.inr (nI_le (by omega) hk))] at h
    exact absurd h (by decide)
theorem can_no {S : St} {k : Nat} {y : Int32} (hk : k < 2 ^ 31) (h : ¬ k < nW S) : canF S (nI k) y = 0 := by
  unfold canF
  rw [if_pos (Or.inr (nI_le (by omega) hk))]
theorem wf_setC {S : St} (hF : WFS S) {k : Nat} {y : Int32} (hk : k < 2 ^ 31) (h : canF S (nI k) y = 1) : WFS (setS S 1 k (S 1 k + y)) := by
  obtain ⟨b, hb, e⟩ := can_val (can_lt hk hF.1.1 h) hF.1.1 h
  rw [e]
  exact wf_set1 hF hb
theorem do_wf {S : St} (hF : WFS S) {d : Int32} {k : Nat} (hk : k < 2 ^ 31) (h : doB S d k = true) : WFS (doS S d k) := by
  unfold doB at h
  unfold doS
  by_cases c1 : d = 1
  · subst c1
    rw [if_neg (by decide), if_pos rfl] at h
    rw [if_pos rfl]
    exact wf_setC hF hk (by simpa using h)
  rw [if_neg c1]
  by_cases c2 : d = 2
  · subst c2
    rw [if_neg (by decide), if_neg (by decide), if_pos rfl] at h
    rw [if_pos rfl]
    exact wf_setC hF hk (by simpa using h)
  rw [if_neg c2]
  by_cases c3 : d = 3
  · rw [if_pos c3]; exact wf_set5 hF (by decide)
  rw [if_neg c3]
  by_cases c4 : d = 4
  · rw [if_pos c4]; exact wf_set5 hF (by decide)
  rw [if_neg c4]; exact hF
def eqv (S T : St) : Prop := ∀ r k, r ≠ 3 → S r k = T r k
theorem eqv_set {S T : St} (h : eqv S T) (r k : Nat) (x y : Int32) (e : x = y) : eqv (setS S r k x) (setS T r k y) := by
  intro r' k' hr
  unfold setS
  rw [h r' k' hr, e]
theorem do_eqv {S T : St} (h : eqv S T) (d : Int32) (k : Nat) : doB S d k = doB T d k ∧ eqv (doS S d k) (doS T d k) := by
  have hn : nW S = nW T := by unfold nW; rw [h 5 0 (by decide)]
  have hc : ∀ w y, canF S w y = canF T w y := fun w y => by unfold canF; rw [hn, h 1 _ (by decide)]
  refine ⟨?_, ?_⟩
  · unfold doB; rw [hc, hc, h 5 2 (by decide), h 5 3 (by decide)]
  · unfold doS
    by_cases c1 : d = 1
    · rw [if_pos c1, if_pos c1]; exact eqv_set h _ _ _ _ (by rw [h 1 k (by decide)])
    rw [if_neg c1, if_neg c1]
    by_cases c2 : d = 2
    · rw [if_pos c2, if_pos c2]; exact eqv_set h _ _ _ _ (by rw [h 1 k (by decide)])
    rw [if_neg c2, if_neg c2]
    by_cases c3 : d = 3
    · rw [if_pos c3, if_pos c3]; exact eqv_set h _ _ _ _ rfl
    rw [if_neg c3, if_neg c3]
    by_cases c4 : d = 4
    · rw [if_pos c4, if_pos c4]; exact eqv_set h _ _ _ _ rfl
    rw [if_neg c4, if_neg c4]
    exact h
def jdN (row n : Nat) : Nat → St → Int32
  | 0, _ => -9
  | r + 1, S => if doB S (nI (row / 100 ^ r % 100 / 10)) (row / 100 ^ r % 100 % 10) then jdN row n r (doS S (nI (row / 100 ^ r % 100 / 10)) (row / 100 ^ r % 100 % 10)) else nI (n - (r + 1))
theorem jd_eqv (row n : Nat) : ∀ (r : Nat) (S T : St), eqv S T → jdN row n r S = jdN row n r T
  | 0, _, _, _ => rfl
  | r + 1, S, T, h => by
    obtain ⟨e1, e2⟩ := do_eqv h (nI (row / 100 ^ r % 100 / 10)) (row / 100 ^ r % 100 % 10)
    show (if doB S _ _ then jdN row n r (doS S _ _) else _) = (if doB T _ _ then jdN row n r (doS T _ _) else _)
    rw [e1, jd_eqv row n r _ _ e2]
theorem jd_n {row n i : Nat} (hi : i < n) {S : St} (h : doB S (nI (row / 100 ^ (n - 1 - i) % 100 / 10)) (row / 100 ^ (n - 1 - i) % 100 % 10) = false) : jdN row n (n - i) S = nI i := by
  obtain ⟨r, hr⟩ : ∃ r, n - i = r + 1 := ⟨n - i - 1, by omega⟩
  rw [hr]
  rw [show n - 1 - i = r by omega] at h
  show (if doB S _ _ then _ else nI (n - (r + 1))) = _
  rw [h, show n - (r + 1) = i by omega]; rfl
theorem jd_y {row n i : Nat} (hi : i < n) {S : St} (h : doB S (nI (row / 100 ^ (n - 1 - i) % 100 / 10)) (row / 100 ^ (n - 1 - i) % 100 % 10) = true) : jdN row n (n - i) S = jdN row n (n - (i + 1)) (doS S (nI (row / 100 ^ (n - 1 - i) % 100 / 10)) (row / 100 ^ (n - 1 - i) % 100 % 10)) := by
  obtain ⟨r, hr⟩ : ∃ r, n - i = r + 1 := ⟨n - i - 1, by omega⟩
  rw [hr, show n - (i + 1) = r by omega]
  rw [show n - 1 - i = r by omega] at h ⊢
  show (if doB S _ _ then _ else nI (n - (r + 1))) = _
  rw [h]; rfl
theorem pow_100 : ∀ n, n < 5 → powN 100 n = nI (100 ^ n) := by decide +kernel
theorem pow100_le {n : Nat} (h : n ≤ 4) : 100 ^ n ≤ 100000000 := Nat.le_trans (Nat.pow_le_pow_right (by decide) h) (by decide)
def judF (S : St) (n row : Int32) : Int32 := if n < 1 ∨ 4 < n then -2 else if row < 0 ∨ powN 100 n.toNatClampNeg ≤ row then -2 else jdN row.toNatClampNeg n.toNatClampNeg n.toNatClampNeg S
theorem n14 {w : Int32} (h : ¬ (w < 1 ∨ 4 < w)) : ∃ n, 1 ≤ n ∧ n ≤ 4 ∧ w = nI n := by
  rw [i_lt, i_lt, i_1, show (4 : Int32).toInt = 4 from rfl] at h
  obtain ⟨n, h1, h2⟩ := nI_back (x := w) (by omega) (n := 4) (by omega) (by decide)
  refine ⟨n, ?_, h1, h2⟩
  rw [h2, nI_toInt (by omega)] at h
  omega
theorem t10 {q k : Nat} (hq : q < 10) (hk : k < 10) : nI (10 * q + k) / 10 = nI q ∧ nI (10 * q + k) - nI (10 * q + k) / 10 * 10 = nI k := by
  refine ⟨?_, ?_⟩
  · rw [show (10 : Int32) = nI 10 from rfl, pk_div (by omega) (by decide) (by decide), show (10 * q + k) / 10 = q by omega]
  · rw [show (10 : Int32) = nI 10 from rfl, pk_rem (by omega) (by decide) (by decide), show (10 * q + k) % 10 = k by omega]
theorem s_turn {l : Launch} {D : va_G} {base b : Nat} (hb : IsLane b) {h : Hp} {S : St} (hS : laneS h b = S) (hF : WFS S) {k : Nat} (hk : k < 2 ^ 31) {y : Int32} : SI l D base M_Ln_turn [.ref b, .int (nI k), .int y] h (fun g x => (canF S (nI k) y = 1 ∧ x = 1 ∧ k < nW S ∧ g = sI h (b + 2) k (S 1 k + y)) ∨ (canF S (nI k) y = 0 ∧ x = 0 ∧ g = h)) := by
  rcases can_two S (nI k) y with c | c
  · exact SI.of (s_turnN hb hS hF c) (Or.inr ⟨c, rfl, rfl⟩)
  · exact SI.of (s_turnY hb hS hF (can_lt hk hF.1.1 c) c) (Or.inl ⟨c, rfl, can_lt hk hF.1.1 c, rfl⟩)
theorem c_blewOnTrial {l : Launch} {D : va_G} {base : Nat} {h : Hp} {k : Nat} (hk : k < 10) : SI l D base M_Lm_blewOnTrial [.ref 0, .int (nI k)] h (fun g x => (k < 3 ∧ ¬ gI h 10 8 = nI k ∧ x = 1 ∧ g = sI h 10 8 (nI k)) ∨ (¬ (k < 3 ∧ ¬ gI h 10 8 = nI k) ∧ x = 0 ∧ g = h)) := by
  refine SP.of [some (.ref 0), some (.int (nI k))] (by decide) rfl (Nat.le_of_ble_eq_true rfl) ?_
  have e0 : (rg (nI k) 0 2 = 0) ↔ ¬ k < 3 := by
    unfold rg
    by_cases c : 2 < k
    · rw [if_pos (show nI k < 0 ∨ (2 : Int32) < nI k from Or.inr (nI_lt c (by omega)))]; simp; omega
    · rw [if_neg (fun z => z.elim (nI_nlt (Nat.zero_le k) (by omega)) (nI_nlt (show k ≤ 2 by omega) (by decide)))]; simp; omega
  refine wh_iload_n (pc := 0) d_Lm_blewOnTrial_0 rfl rfl ?_
  refine cs_Lm_149_d (pc := 1) rfl d_Lm_blewOnTrial_1 ⟨⟨by decide, by decide⟩, rfl, rfl⟩ (s_isWind) (Nat.le_of_ble_eq_true rfl) ?_
  refine wh_if_eq (pc := 4) (tgt := 18) d_Lm_blewOnTrial_4 (by decide) (fun c_4 => ?_) (fun c_4 => ?_)
  · refine wh_iconst (pc := 18) (v := 0) d_Lm_blewOnTrial_18 (by decide) ?_
    refine wh_zret (pc := 19) d_Lm_blewOnTrial_19 rfl rfl ?_
    first
      | exact ⟨_, rfl, Or.inr ⟨fun z => (e0.mp c_4) z.1, rfl, rfl⟩⟩
      | exact ⟨_, rfl, Or.inr ⟨fun z => z.2 c_15, rfl, rfl⟩⟩
      | exact ⟨_, rfl, Or.inl ⟨by by_cases z : k < 3; exact z; exact absurd (e0.mpr z) c_4, c_15, rfl, rfl⟩⟩
  · refine wh_aload_n (pc := 7) d_Lm_blewOnTrial_7 rfl rfl ?_
    refine gf_Lm_24 (pc := 8) rfl d_Lm_blewOnTrial_8 ?_
    refine gf_Lm_82 (pc := 11) (Or.inr rfl) rfl d_Lm_blewOnTrial_11 ?_
    refine wh_iload_n (pc := 14) d_Lm_blewOnTrial_14 rfl rfl ?_
    refine wh_icmp_ne (pc := 15) (tgt := 20) d_Lm_blewOnTrial_15 (by decide) (fun c_15 => ?_) (fun c_15 => ?_)
    · refine wh_aload_n (pc := 20) d_Lm_blewOnTrial_20 rfl rfl ?_
      refine gf_Lm_24 (pc := 21) rfl d_Lm_blewOnTrial_21 ?_
      refine wh_iload_n (pc := 24) d_Lm_blewOnTrial_24 rfl rfl ?_
      refine pf_Lm_82 (pc := 25) (Or.inr rfl) rfl d_Lm_blewOnTrial_25 ?_
      refine wh_iconst (pc := 28) (v := 1) d_Lm_blewOnTrial_28 (by decide) ?_
      refine wh_zret (pc := 29) d_Lm_blewOnTrial_29 rfl rfl ?_
      first
        | exact ⟨_, rfl, Or.inr ⟨fun z => (e0.mp c_4) z.1, rfl, rfl⟩⟩
        | exact ⟨_, rfl, Or.inr ⟨fun z => z.2 c_15, rfl, rfl⟩⟩
        | exact ⟨_, rfl, Or.inl ⟨by by_cases z : k < 3; exact z; exact absurd (e0.mpr z) c_4, c_15, rfl, rfl⟩⟩
    · refine wh_iconst (pc := 18) (v := 0) d_Lm_blewOnTrial_18 (by decide) ?_
      refine wh_zret (pc := 19) d_Lm_blewOnTrial_19 rfl rfl ?_
      first
        | exact ⟨_, rfl, Or.inr ⟨fun z => (e0.mp c_4) z.1, rfl, rfl⟩⟩
        | exact ⟨_, rfl, Or.inr ⟨fun z => z.2 c_15, rfl, rfl⟩⟩
        | exact ⟨_, rfl, Or.inl ⟨by by_cases z : k < 3; exact z; exact absurd (e0.mpr z) c_4, c_15, rfl, rfl⟩⟩
theorem c_movedOnTrial {l : Launch} {D : va_G} {base : Nat} {h : Hp} {k : Nat} (hk : k < 10) : SI l D base M_Lm_movedOnTrial [.ref 0, .int (nI k)] h (fun g x => (k < 10 ∧ ¬ gI h 10 9 = nI k ∧ x = 1 ∧ g = sI h 10 9 (nI k)) ∨ (¬ (k < 10 ∧ ¬ gI h 10 9 = nI k) ∧ x = 0 ∧ g = h)) := by
  refine SP.of [some (.ref 0), some (.int (nI k))] (by decide) rfl (Nat.le_of_ble_eq_true rfl) ?_
  have e0 : (rg (nI k) 0 9 = 0) ↔ ¬ k < 10 := by
    unfold rg
    by_cases c : 9 < k
    · rw [if_pos (show nI k < 0 ∨ (9 : Int32) < nI k from Or.inr (nI_lt c (by omega)))]; simp; omega
    · rw [if_neg (fun z => z.elim (nI_nlt (Nat.zero_le k) (by omega)) (nI_nlt (show k ≤ 9 by omega) (by decide)))]; simp; omega
  refine wh_iload_n (pc := 0) d_Lm_movedOnTrial_0 rfl rfl ?_
  refine cs_Lm_155_d (pc := 1) rfl d_Lm_movedOnTrial_1 ⟨⟨by decide, by decide⟩, rfl, rfl⟩ (s_isHoney) (Nat.le_of_ble_eq_true rfl) ?_
  refine wh_if_eq (pc := 4) (tgt := 18) d_Lm_movedOnTrial_4 (by decide) (fun c_4 => ?_) (fun c_4 => ?_)
  · refine wh_iconst (pc := 18) (v := 0) d_Lm_movedOnTrial_18 (by decide) ?_
    refine wh_zret (pc := 19) d_Lm_movedOnTrial_19 rfl rfl ?_
    first
      | exact ⟨_, rfl, Or.inr ⟨fun z => (e0.mp c_4) z.1, rfl, rfl⟩⟩
      | exact ⟨_, rfl, Or.inr ⟨fun z => z.2 c_15, rfl, rfl⟩⟩
      | exact ⟨_, rfl, Or.inl ⟨by by_cases z : k < 10; exact z; exact absurd (e0.mpr z) c_4, c_15, rfl, rfl⟩⟩
  · refine wh_aload_n (pc := 7) d_Lm_movedOnTrial_7 rfl rfl ?_
    refine gf_Lm_24 (pc := 8) rfl d_Lm_movedOnTrial_8 ?_
    refine gf_Lm_85 (pc := 11) (Or.inr rfl) rfl d_Lm_movedOnTrial_11 ?_
    refine wh_iload_n (pc := 14) d_Lm_movedOnTrial_14 rfl rfl ?_
    refine wh_icmp_ne (pc := 15) (tgt := 20) d_Lm_movedOnTrial_15 (by decide) (fun c_15 => ?_) (fun c_15 => ?_)
    · refine wh_aload_n (pc := 20) d_Lm_movedOnTrial_20 rfl rfl ?_
      refine gf_Lm_24 (pc := 21) rfl d_Lm_movedOnTrial_21 ?_
      refine wh_iload_n (pc := 24) d_Lm_movedOnTrial_24 rfl rfl ?_
      refine pf_Lm_85 (pc := 25) (Or.inr rfl) rfl d_Lm_movedOnTrial_25 ?_
      refine wh_iconst (pc := 28) (v := 1) d_Lm_movedOnTrial_28 (by decide) ?_
      refine wh_zret (pc := 29) d_Lm_movedOnTrial_29 rfl rfl ?_
      first
        | exact ⟨_, rfl, Or.inr ⟨fun z => (e0.mp c_4) z.1, rfl, rfl⟩⟩
        | exact ⟨_, rfl, Or.inr ⟨fun z => z.2 c_15, rfl, rfl⟩⟩
        | exact ⟨_, rfl, Or.inl ⟨by by_cases z : k < 10; exact z; exact absurd (e0.mpr z) c_4, c_15, rfl, rfl⟩⟩
    · refine wh_iconst (pc := 18) (v := 0) d_Lm_movedOnTrial_18 (by decide) ?_
      refine wh_zret (pc := 19) d_Lm_movedOnTrial_19 rfl rfl ?_
      first
        | exact ⟨_, rfl, Or.inr ⟨fun z => (e0.mp c_4) z.1, rfl, rfl⟩⟩
        | exact ⟨_, rfl, Or.inr ⟨fun z => z.2 c_15, rfl, rfl⟩⟩
        | exact ⟨_, rfl, Or.inl ⟨by by_cases z : k < 10; exact z; exact absurd (e0.mpr z) c_4, c_15, rfl, rfl⟩⟩
theorem c_did {l : Launch} {D : va_G} {base : Nat} {h : Hp} {S : St} (hS : laneS h 10 = S) (hF : WFS S) (d : Int32) {k : Nat} (hk : k < 10) : SI l D base M_Lm_didOnTrial [.ref 0, .int d, .int (nI k)] h (fun g x => FC h g ∧ ((doB S d k = true ∧ x = 1 ∧ laneS g 10 = doS S d k) ∨ (doB S d k = false ∧ x = 0))) := by
  refine SP.of [some (.ref 0), some (.int d), some (.int (nI k))] (by decide) rfl (Nat.le_of_ble_eq_true rfl) ?_
  have hw5 := hF.1.1
  have f8 : ∀ v, FC h (sI h 10 8 v) := fun v => fc_sI (by unfold scC; omega)
  have f9 : ∀ v, FC h (sI h 10 9 v) := fun v => fc_sI (by unfold scC; omega)
  have ft : ∀ y, FC h (sI h (10 + 2) k y) := fun y => fc_sI (by unfold scC; omega)
  refine wh_iload_n (pc := 0) d_Lm_didOnTrial_0 rfl rfl ?_
  by_cases q_1_0 : d = 0
  · subst q_1_0
    refine wh_tabIn (pc := 1) (tgt := 36) d_Lm_didOnTrial_1 (by decide) (by decide) rfl (by decide) ?_
    refine wh_iload_n (pc := 36) d_Lm_didOnTrial_36 rfl rfl ?_
    refine wh_if_ne (pc := 37) (tgt := 44) d_Lm_didOnTrial_37 (by decide) (fun c_37 => ?_) (fun c_37 => ?_)
    · refine wh_iconst (pc := 44) (v := 0) d_Lm_didOnTrial_44 (by decide) ?_
      refine wh_zret (pc := 45) d_Lm_didOnTrial_45 rfl (by first | rfl | (rcases e_52 with z | z <;> rw [z.2.1] <;> rfl) | (rcases e_62 with z | z <;> rw [z.2.1] <;> rfl) | (rcases e_68 with z | z; (rw [z.2.2.1]; rfl); (rw [z.2.1]; rfl)) | (rcases e_74 with z | z; (rw [z.2.2.1]; rfl); (rw [z.2.1]; rfl))) ?_
      first
        | exact ⟨_, rfl, FC.rf h, Or.inl ⟨by unfold doB; rw [if_pos rfl]; simp; have := (nI_eq (b := 0) (by omega) (by decide)).mp c_37; exact this, rfl, hS⟩⟩
        | exact ⟨_, rfl, FC.rf h, Or.inr ⟨by unfold doB; rw [if_pos rfl]; simp; exact fun z => c_37 (by rw [z]; rfl), rfl⟩⟩
    · refine wh_iconst (pc := 40) (v := 1) d_Lm_didOnTrial_40 (by decide) ?_
      refine wh_goto (pc := 41) (tgt := 45) d_Lm_didOnTrial_41 (by decide) ?_
      refine wh_zret (pc := 45) d_Lm_didOnTrial_45 rfl (by first | rfl | (rcases e_52 with z | z <;> rw [z.2.1] <;> rfl) | (rcases e_62 with z | z <;> rw [z.2.1] <;> rfl) | (rcases e_68 with z | z; (rw [z.2.2.1]; rfl); (rw [z.2.1]; rfl)) | (rcases e_74 with z | z; (rw [z.2.2.1]; rfl); (rw [z.2.1]; rfl))) ?_
      first
        | exact ⟨_, rfl, FC.rf h, Or.inl ⟨by unfold doB; rw [if_pos rfl]; simp; have := (nI_eq (b := 0) (by omega) (by decide)).mp c_37; exact this, rfl, hS⟩⟩
        | exact ⟨_, rfl, FC.rf h, Or.inr ⟨by unfold doB; rw [if_pos rfl]; simp; exact fun z => c_37 (by rw [z]; rfl), rfl⟩⟩
  by_cases q_1_1 : d = 1
  · subst q_1_1
    refine wh_tabIn (pc := 1) (tgt := 46) d_Lm_didOnTrial_1 (by decide) (by decide) rfl (by decide) ?_
    refine wh_aload_n (pc := 46) d_Lm_didOnTrial_46 rfl rfl ?_
    refine gf_Lm_24 (pc := 47) rfl d_Lm_didOnTrial_47 ?_
    refine wh_iload_n (pc := 50) d_Lm_didOnTrial_50 rfl rfl ?_
    refine wh_iconst (pc := 51) (v := 1) d_Lm_didOnTrial_51 (by decide) ?_
    refine cv_Lm_246_i (pc := 52) (Or.inr rfl) rfl d_Lm_didOnTrial_52 ⟨⟨by decide, by decide⟩, rfl, rfl⟩ (s_turn (Or.inr rfl) hS hF (by omega)) (Nat.le_of_ble_eq_true rfl) (fun h_52 x_52 e_52 => ?_)
    refine wh_zret (pc := 55) d_Lm_didOnTrial_55 rfl (by first | rfl | (rcases e_52 with z | z <;> rw [z.2.1] <;> rfl) | (rcases e_62 with z | z <;> rw [z.2.1] <;> rfl) | (rcases e_68 with z | z; (rw [z.2.2.1]; rfl); (rw [z.2.1]; rfl)) | (rcases e_74 with z | z; (rw [z.2.2.1]; rfl); (rw [z.2.1]; rfl))) ?_
    rcases e_52 with z | z
    · exact ⟨_, rfl, by rw [z.2.2.2]; exact ft _, Or.inl ⟨by unfold doB; rw [if_neg (by decide), if_pos rfl]; simpa using z.1, z.2.1, by rw [z.2.2.2, lane_s1 (by rw [hS]; exact z.2.2.1), hS]; rfl⟩⟩
    · exact ⟨_, rfl, by rw [z.2.2]; exact FC.rf h, Or.inr ⟨by unfold doB; rw [if_neg (by decide), if_pos rfl, z.1]; rfl, z.2.1⟩⟩
  by_cases q_1_2 : d = 2
  · subst q_1_2
    refine wh_tabIn (pc := 1) (tgt := 56) d_Lm_didOnTrial_1 (by decide) (by decide) rfl (by decide) ?_
    refine wh_aload_n (pc := 56) d_Lm_didOnTrial_56 rfl rfl ?_
    refine gf_Lm_24 (pc := 57) rfl d_Lm_didOnTrial_57 ?_
    refine wh_iload_n (pc := 60) d_Lm_didOnTrial_60 rfl rfl ?_
    refine wh_iconst (pc := 61) (v := (-1)) d_Lm_didOnTrial_61 (by decide) ?_
    refine cv_Lm_246_i (pc := 62) (Or.inr rfl) rfl d_Lm_didOnTrial_62 ⟨⟨by decide, by decide⟩, rfl, rfl⟩ (s_turn (Or.inr rfl) hS hF (by omega)) (Nat.le_of_ble_eq_true rfl) (fun h_62 x_62 e_62 => ?_)
    refine wh_zret (pc := 65) d_Lm_didOnTrial_65 rfl (by first | rfl | (rcases e_52 with z | z <;> rw [z.2.1] <;> rfl) | (rcases e_62 with z | z <;> rw [z.2.1] <;> rfl) | (rcases e_68 with z | z; (rw [z.2.2.1]; rfl); (rw [z.2.1]; rfl)) | (rcases e_74 with z | z; (rw [z.2.2.1]; rfl); (rw [z.2.1]; rfl))) ?_
    rcases e_62 with z | z
    · exact ⟨_, rfl, by rw [z.2.2.2]; exact ft _, Or.inl ⟨by unfold doB; rw [if_neg (by decide), if_neg (by decide), if_pos rfl]; simpa using z.1, z.2.1, by rw [z.2.2.2, lane_s1 (by rw [hS]; exact z.2.2.1), hS]; rfl⟩⟩
    · exact ⟨_, rfl, by rw [z.2.2]; exact FC.rf h, Or.inr ⟨by unfold doB; rw [if_neg (by decide), if_neg (by decide), if_pos rfl, z.1]; rfl, z.2.1⟩⟩
  by_cases q_1_3 : d = 3
  · subst q_1_3
    refine wh_tabIn (pc := 1) (tgt := 66) d_Lm_didOnTrial_1 (by decide) (by decide) rfl (by decide) ?_
    refine wh_aload_n (pc := 66) d_Lm_didOnTrial_66 rfl rfl ?_
    refine wh_iload_n (pc := 67) d_Lm_didOnTrial_67 rfl rfl ?_
    refine cv_Lm_252_i (pc := 68) rfl d_Lm_didOnTrial_68 ⟨⟨by decide, by decide⟩, rfl, rfl⟩ (c_blewOnTrial hk) (Nat.le_of_ble_eq_true rfl) (fun h_68 x_68 e_68 => ?_)
    refine wh_zret (pc := 71) d_Lm_didOnTrial_71 rfl (by first | rfl | (rcases e_52 with z | z <;> rw [z.2.1] <;> rfl) | (rcases e_62 with z | z <;> rw [z.2.1] <;> rfl) | (rcases e_68 with z | z; (rw [z.2.2.1]; rfl); (rw [z.2.1]; rfl)) | (rcases e_74 with z | z; (rw [z.2.2.1]; rfl); (rw [z.2.1]; rfl))) ?_
    have e52 : S 5 2 = gI h 10 8 := by rw [← hS]; rfl
    rcases e_68 with z | z
    · exact ⟨_, rfl, by rw [z.2.2.2]; exact f8 _, Or.inl ⟨by unfold doB; rw [if_neg (by decide), if_neg (by decide), if_neg (by decide), if_pos rfl, e52]; simp only [decide_eq_true_eq]; exact ⟨z.1, z.2.1⟩, z.2.2.1, by rw [z.2.2.2, lane_s8, hS]; rfl⟩⟩
    · exact ⟨_, rfl, by rw [z.2.2]; exact FC.rf h, Or.inr ⟨by unfold doB; rw [if_neg (by decide), if_neg (by decide), if_neg (by decide), if_pos rfl, e52]; simp only [decide_eq_false_iff_not]; exact z.1, z.2.1⟩⟩
  by_cases q_1_4 : d = 4
  · subst q_1_4
    refine wh_tabIn (pc := 1) (tgt := 72) d_Lm_didOnTrial_1 (by decide) (by decide) rfl (by decide) ?_
    refine wh_aload_n (pc := 72) d_Lm_didOnTrial_72 rfl rfl ?_
    refine wh_iload_n (pc := 73) d_Lm_didOnTrial_73 rfl rfl ?_
    refine cv_Lm_255_i (pc := 74) rfl d_Lm_didOnTrial_74 ⟨⟨by decide, by decide⟩, rfl, rfl⟩ (c_movedOnTrial hk) (Nat.le_of_ble_eq_true rfl) (fun h_74 x_74 e_74 => ?_)
    refine wh_zret (pc := 77) d_Lm_didOnTrial_77 rfl (by first | rfl | (rcases e_52 with z | z <;> rw [z.2.1] <;> rfl) | (rcases e_62 with z | z <;> rw [z.2.1] <;> rfl) | (rcases e_68 with z | z; (rw [z.2.2.1]; rfl); (rw [z.2.1]; rfl)) | (rcases e_74 with z | z; (rw [z.2.2.1]; rfl); (rw [z.2.1]; rfl))) ?_
    have e53 : S 5 3 = gI h 10 9 := by rw [← hS]; rfl
    rcases e_74 with z | z
    · exact ⟨_, rfl, by rw [z.2.2.2]; exact f9 _, Or.inl ⟨by unfold doB; rw [if_neg (by decide), if_neg (by decide), if_neg (by decide), if_neg (by decide), if_pos rfl, e53]; simp only [decide_eq_true_eq]; exact z.2.1, z.2.2.1, by rw [z.2.2.2, lane_s9, hS]; rfl⟩⟩
    · exact ⟨_, rfl, by rw [z.2.2]; exact FC.rf h, Or.inr ⟨by unfold doB; rw [if_neg (by decide), if_neg (by decide), if_neg (by decide), if_neg (by decide), if_pos rfl, e53]; simp only [decide_eq_false_iff_not]; exact fun y => z.1 ⟨hk, y⟩, z.2.1⟩⟩
  refine wh_tabOut (pc := 1) (tgt := 78) d_Lm_didOnTrial_1 (by have t0 := lv_neT q_1_0 (a := 0) (by decide); have t1 := lv_neT q_1_1 (a := 1) (by decide); have t2 := lv_neT q_1_2 (a := 2) (by decide); have t3 := lv_neT q_1_3 (a := 3) (by decide); have t4 := lv_neT q_1_4 (a := 4) (by decide); omega) (by decide) ?_
  refine wh_iconst (pc := 78) (v := 0) d_Lm_didOnTrial_78 (by decide) ?_
  refine wh_zret (pc := 79) d_Lm_didOnTrial_79 rfl (by first | rfl | (rcases e_52 with z | z <;> rw [z.2.1] <;> rfl) | (rcases e_62 with z | z <;> rw [z.2.1] <;> rfl) | (rcases e_68 with z | z; (rw [z.2.2.1]; rfl); (rw [z.2.1]; rfl)) | (rcases e_74 with z | z; (rw [z.2.2.1]; rfl); (rw [z.2.1]; rfl))) ?_
  exact ⟨_, rfl, FC.rf h, Or.inr ⟨by unfold doB; rw [if_neg q_1_0, if_neg q_1_1, if_neg q_1_2, if_neg q_1_3, if_neg q_1_4], rfl⟩⟩

theorem wb_tb (n : Nat) : (lN n).toBitVec = BitVec.ofNat 64 n := rfl
theorem wb_inj {a b : Int64} (h : a.toBitVec = b.toBitVec) : a = b := Int64.toBitVec_inj.mp h
theorem wb_tn {n : Nat} (h : n < 2 ^ 64) : (lN n).toBitVec.toNat = n := by rw [wb_tb, BitVec.toNat_ofNat, Nat.mod_eq_of_lt h]
theorem wb_of (x : Int64) : ∃ n, n < 2 ^ 64 ∧ x = lN n := ⟨x.toBitVec.toNat, x.toBitVec.isLt, wb_inj (by rw [wb_tb]; simp)⟩
theorem wb_cu : ∀ k, k < 64 → ((nI k).toInt64.toUInt64 &&& Int64.toUInt64 63) = UInt64.ofNat k := by decide +kernel
theorem wb_shr {n k : Nat} (hn : n < 2 ^ 64) (hk : k < 64) : ((lN n).toUInt64 >>> ((nI k).toInt64.toUInt64 &&& Int64.toUInt64 63)).toInt64 = lN (n / 2 ^ k) := by
  rw [wb_cu k hk]
  apply wb_inj
  apply BitVec.eq_of_toNat_eq
  show ((lN n).toUInt64 >>> UInt64.ofNat k).toNat = (BitVec.ofNat 64 _).toNat
  have h1 : (UInt64.ofNat k).toNat = k := by
    show (BitVec.ofNat 64 k).toNat = k
    rw [BitVec.toNat_ofNat, Nat.mod_eq_of_lt (by omega)]
  have h2 : (lN n).toUInt64.toNat = n := wb_tn hn
  rw [UInt64.toNat_shiftRight, h1, h2, Nat.mod_eq_of_lt hk, Nat.shiftRight_eq_div_pow, BitVec.toNat_ofNat, Nat.mod_eq_of_lt (Nat.lt_of_le_of_lt (Nat.div_le_self _ _) hn)]
def lotE (v : Int64) : Int32 := ((v.toUInt64 >>> ((33 : Int32).toInt64.toUInt64 &&& Int64.toUInt64 63)).toInt64 - (v.toUInt64 >>> ((33 : Int32).toInt64.toUInt64 &&& Int64.toUInt64 63)).toInt64 / 20 * 20).toInt32
def lotN (v : Int64) : Nat := (lotE v).toNatClampNeg
theorem lot_in (v : Int64) : lotN v < 20 ∧ lotE v = nI (lotN v) := by
  obtain ⟨a, ha, e⟩ := wb_of v
  have h1 : lotE v = nI (a / 2 ^ 33 % 20) := by
    unfold lotE
    have hs : (v.toUInt64 >>> ((33 : Int32).toInt64.toUInt64 &&& Int64.toUInt64 63)).toInt64 = lN (a / 2 ^ 33) := by rw [e]; exact wb_shr (k := 33) ha (by decide)
    rw [hs, show (20 : Int64) = lN 20 from rfl, pk_lRem (by omega) (by decide) (by decide), lN_i]
  have h2 : a / 2 ^ 33 % 20 < 20 := Nat.mod_lt _ (by decide)
  have h3 : lotN v = a / 2 ^ 33 % 20 := by unfold lotN; rw [h1, cl_nI (by omega)]
  rw [h3]
  exact ⟨h2, h1⟩
def sdN (v : Int64) : Nat → Int64
  | 0 => v
  | i + 1 => sdN v i * 6364136223846793005 + 1442695040888963407
def wkS (S : St) (x : Nat) : St := if x < 5 then (if canF S (nI x) 1 = 1 then setS S 1 x (S 1 x + 1) else S) else if x < 10 then (if canF S (nI (x - 5)) (-1) = 1 then setS S 1 (x - 5) (S 1 (x - 5) + -1) else S) else if x < 13 then setS S 5 2 (nI (x - 10)) else nightS S
def wkT (S : St) (v : Int64) : Nat → St
  | 0 => S
  | i + 1 => wkS (wkT S v i) (lotN (sdN v (i + 1)))
def wkQ (S : St) (v : Int64) (P : Nat → Int32) : Nat → Nat → Int32
  | 0, k => P k
  | i + 1, k => if lotN (sdN v (i + 1)) < 13 then wkQ S v P i k else wkQ S v P i k + owedF (wkT S v i) k
theorem wk_wf {S : St} (hF : WFS S) {x : Nat} (hx : x < 20) : WFS (wkS S x) ∧ nW (wkS S x) = nW S := by
  unfold wkS
  by_cases h1 : x < 5
  · rw [if_pos h1]
    by_cases c : canF S (nI x) 1 = 1
    · rw [if_pos c]; exact ⟨wf_setC hF (by omega) c, nW_set (by omega)⟩
    · rw [if_neg c]; exact ⟨hF, rfl⟩
  rw [if_neg h1]
  by_cases h2 : x < 10
  · rw [if_pos h2]
    by_cases c : canF S (nI (x - 5)) (-1) = 1
    · rw [if_pos c]; exact ⟨wf_setC hF (by omega) c, nW_set (by omega)⟩
    · rw [if_neg c]; exact ⟨hF, rfl⟩
  rw [if_neg h2]
  by_cases h3 : x < 13
  · rw [if_pos h3]; exact ⟨wf_set5 hF (by decide), nW_set (by omega)⟩
  rw [if_neg h3]
  exact ⟨wf_moved hF _ (Nat.le_refl _), moved_nW S _⟩
theorem wkT_wf {S : St} (hF : WFS S) (v : Int64) : ∀ i, WFS (wkT S v i) ∧ nW (wkT S v i) = nW S
  | 0 => ⟨hF, rfl⟩
  | i + 1 => by
    obtain ⟨h1, h2⟩ := wkT_wf hF v i
    obtain ⟨h3, h4⟩ := wk_wf h1 (lot_in (sdN v (i + 1))).1
    exact ⟨h3, h4.trans h2⟩
theorem wkQ_congr (S : St) (v : Int64) {P P' : Nat → Int32} {n : Nat} (h : ∀ k, k < n → P k = P' k) : ∀ i k, k < n → wkQ S v P i k = wkQ S v P' i k
  | 0, k, hk => h k hk
  | i + 1, k, hk => by
    show (if lotN (sdN v (i + 1)) < 13 then wkQ S v P i k else wkQ S v P i k + owedF (wkT S v i) k) = (if lotN (sdN v (i + 1)) < 13 then wkQ S v P' i k else wkQ S v P' i k + owedF (wkT S v i) k)
    rw [wkQ_congr S v h i k hk]
def wkX (S : St) (P : Nat → Int32) (v : Int64) (m : Nat) : Int32 := smN (wkQ S v P m) (nW S) - smN P (nW S)
theorem wkX_congr {S : St} {P P' : Nat → Int32} {v : Int64} {m : Nat} (h : ∀ k, k < nW S → P k = P' k) : wkX S P v m = wkX S P' v m := by
  unfold wkX
  rw [sm_congr (nW S) h, sm_congr (nW S) (fun k hk => wkQ_congr S v h m k hk)]
theorem lane_ntH {h : Hp} {b : Nat} : laneS (ntH h b) b = nightS (laneS h b) := by
  unfold ntH nightS
  rw [← lane_nt (Nat.le_refl _)]
  exact lane_ext (fun j h1 h2 => gI_sM (by omega)) (fun c j h1 h2 h3 => gI_sN (by omega))
theorem nt_paid {h : Hp} {b k : Nat} (hk : k < nW (laneS h b)) : gI (ntH h b) (b + 4) k = gI h (b + 4) k + owedF (laneS h b) k := by
  unfold ntH
  rw [gI_sN (by omega), gI_fillN (by omega), gI_fillY hk]
theorem fc_ntH {h : Hp} : FC h (ntH h 10) := ⟨rfl, fun c j q => by
  unfold ntH
  rw [gI_sN (fun z => q (by unfold scC; omega)), gI_fillN (fun z => q (by unfold scC; omega)), gI_fillN (fun z => q (by unfold scC; omega)), gI_fillN (fun z => q (by unfold scC; omega))]⟩
theorem nt_pg {h : Hp} {k : Nat} (hm : nM (pageS h 49) ≤ 6) (hk : k < nW (pageS h 49)) (hw : nW (pageS h 49) ≤ 5) : gI (ntP h 49) 49 (5 + k) = gI h 49 (5 + k) + owedF (pageS h 49) k := by
  unfold ntP
  rw [gI_sM (by omega), fo_O (by omega), fo_Y hk]
theorem nt_pgz {h : Hp} {k : Nat} (hm : nM (pageS h 49) ≤ 6) (hk : nW (pageS h 49) ≤ k) (h5 : k < 5) : gI (ntP h 49) 49 (5 + k) = gI h 49 (5 + k) := by
  unfold ntP
  rw [gI_sM (by omega), fo_O (by omega), fo_O (by omega), lay_N (by decide) (by decide)]
theorem sL_2 {h g : Hp} {a k : Nat} {v v' : Int64} (e : g.2 = (sL h a k v).2) : (sL g a k v').2 = (sL h a k v').2 := by
  have e1 : g.2.1 = (sL h a k v).2.1 := congrArg Prod.fst e
  have e2 : g.2.2 = (sL h a k v).2.2 := congrArg Prod.snd e
  show ((fun b j => if b = a ∧ j = k then v' else g.2.1 b j), g.2.2) = ((fun b j => if b = a ∧ j = k then v' else h.2.1 b j), h.2.2)
  rw [e1, e2]
  refine Prod.ext ?_ rfl
  funext b j
  show (if b = a ∧ j = k then v' else if b = a ∧ j = k then v else h.2.1 b j) = (if b = a ∧ j = k then v' else h.2.1 b j)
  by_cases c : b = a ∧ j = k
  · rw [if_pos c, if_pos c]
  · rw [if_neg c, if_neg c, if_neg c]
theorem FC.sl {h g : Hp} {v v' : Int64} (f : FC (sL h 0 14 v) g) : FC (sL h 0 14 v') (sL g 0 14 v') := ⟨sL_2 f.1, fun c j q => f.2 c j q⟩
theorem FM.sl {h g : Hp} {v v' : Int64} (f : FM (sL h 42 24 v) g) : FM (sL h 42 24 v') (sL g 42 24 v') := ⟨sL_2 f.1, fun c j q => f.2 c j q⟩
theorem gL_sS (h : Hp) (a k : Nat) (v : Int64) : gL (sL h a k v) a k = v := by rw [gL_sL, if_pos ⟨rfl, rfl⟩]
theorem fc_gL {h g : Hp} {v : Int64} (f : FC (sL h 0 14 v) g) : gL g 0 14 = v := by
  have : gL g 0 14 = gL (sL h 0 14 v) 0 14 := by unfold gL; rw [f.1]
  rw [this, gL_sS]
theorem fm_gL {h g : Hp} {v : Int64} (f : FM (sL h 42 24 v) g) : gL g 42 24 = v := by
  have : gL g 42 24 = gL (sL h 42 24 v) 42 24 := by unfold gL; rw [f.1]
  rw [this, gL_sS]
theorem sL_id (h : Hp) (a k : Nat) : sL h a k (gL h a k) = h := by
  refine Prod.ext rfl (Prod.ext ?_ rfl)
  funext b j
  show (if b = a ∧ j = k then h.2.1 a k else h.2.1 b j) = h.2.1 b j
  by_cases c : b = a ∧ j = k
  · rw [if_pos c, c.1, c.2]
  · rw [if_neg c]
theorem n30 {w : Int32} (h : ¬ (w < 1 ∨ 30 < w)) : ∃ n, n ≤ 30 ∧ w = nI n := by
  rw [i_lt, i_lt, i_1, show (30 : Int32).toInt = 30 from rfl] at h
  exact nI_back (x := w) (by omega) (n := 30) (by omega) (by decide)
theorem nW_sL {h : Hp} {a k b : Nat} {v : Int64} : laneS (sL h a k v) b = laneS h b := rfl
theorem c_week {l : Launch} {D : va_G} {base : Nat} {h : Hp} {S : St} (hS : laneS h 10 = S) (hF : WFS S) {x : Nat} (hx : x < 20) : SV l D base M_Lm_passWeekOnTrial [.ref 0, .int (nI x)] h (fun g => FC h g ∧ laneS g 10 = wkS S x ∧ (∀ k, k < nW S → gI g 14 k = if x < 13 then gI h 14 k else gI h 14 k + owedF S k)) := by
  refine SP.of [some (.ref 0), some (.int (nI x))] (by decide) rfl (Nat.le_of_ble_eq_true rfl) ?_
  have hw5 := hF.1.1
  by_cases h1 : x < 5
  · have ew : wkS S x = if canF S (nI x) 1 = 1 then setS S 1 x (S 1 x + 1) else S := by unfold wkS; rw [if_pos h1]
    refine wh_iload_n (pc := 0) d_Lm_passWeekOnTrial_0 rfl rfl ?_
    refine wh_iconst (pc := 1) (v := 5) d_Lm_passWeekOnTrial_1 (by decide) ?_
    refine wh_icmp_ge (pc := 2) (tgt := 18) d_Lm_passWeekOnTrial_2 (by decide) (fun c_2 => absurd c_2 (nI_ge (b := 5) (by omega) (by omega))) (fun c_2 => ?_)
    refine wh_aload_n (pc := 5) d_Lm_passWeekOnTrial_5 rfl rfl ?_
    refine gf_Lm_24 (pc := 6) rfl d_Lm_passWeekOnTrial_6 ?_
    refine wh_iload_n (pc := 9) d_Lm_passWeekOnTrial_9 rfl rfl ?_
    refine wh_iconst (pc := 10) (v := 1) d_Lm_passWeekOnTrial_10 (by decide) ?_
    refine cv_Lm_246_i (pc := 11) (Or.inr rfl) rfl d_Lm_passWeekOnTrial_11 ⟨⟨by decide, by decide⟩, rfl, rfl⟩ (s_turn (Or.inr rfl) hS hF (by omega)) (Nat.le_of_ble_eq_true rfl) (fun h_11 x_11 e_11 => ?_)
    refine wh_pop (pc := 14) d_Lm_passWeekOnTrial_14 rfl ?_
    refine wh_goto (pc := 15) (tgt := 67) d_Lm_passWeekOnTrial_15 (by decide) ?_
    refine wh_vret (pc := 67) d_Lm_passWeekOnTrial_67 rfl ?_
    rcases e_11 with z | z
    · refine ⟨rfl, by rw [z.2.2.2]; exact fc_sI (by unfold scC; omega), ?_, fun k hk => ?_⟩
      · rw [z.2.2.2, lane_s1 (by rw [hS]; exact z.2.2.1), hS, ew, if_pos z.1]
      · rw [if_pos (show x < 13 by omega), z.2.2.2, gI_sN (by decide)]
    · refine ⟨rfl, by rw [z.2.2]; exact FC.rf h, ?_, fun k hk => ?_⟩
      · rw [z.2.2, hS, ew, if_neg (by rw [z.1]; decide)]
      · rw [if_pos (show x < 13 by omega), z.2.2]
  by_cases h2 : x < 10
  · have ew : wkS S x = if canF S (nI (x - 5)) (-1) = 1 then setS S 1 (x - 5) (S 1 (x - 5) + -1) else S := by unfold wkS; rw [if_neg h1, if_pos h2]
    have e5 : nI x - 5 = nI (x - 5) := pk_sub (b := 5) (by omega)
    refine wh_iload_n (pc := 0) d_Lm_passWeekOnTrial_0 rfl rfl ?_
    refine wh_iconst (pc := 1) (v := 5) d_Lm_passWeekOnTrial_1 (by decide) ?_
    refine wh_icmp_ge (pc := 2) (tgt := 18) d_Lm_passWeekOnTrial_2 (by decide) (fun c_2 => ?_) (fun c_2 => absurd (nI_le (a := 5) (by omega) (by omega)) c_2)
    refine wh_iload_n (pc := 18) d_Lm_passWeekOnTrial_18 rfl rfl ?_
    refine wh_bipush (pc := 19) (v := 10) d_Lm_passWeekOnTrial_19 (by decide) ?_
    refine wh_icmp_ge (pc := 21) (tgt := 39) d_Lm_passWeekOnTrial_21 (by decide) (fun c_21 => absurd c_21 (nI_ge (b := 10) (by omega) (by omega))) (fun c_21 => ?_)
    refine wh_aload_n (pc := 24) d_Lm_passWeekOnTrial_24 rfl rfl ?_
    refine gf_Lm_24 (pc := 25) rfl d_Lm_passWeekOnTrial_25 ?_
    refine wh_iload_n (pc := 28) d_Lm_passWeekOnTrial_28 rfl rfl ?_
    refine wh_iconst (pc := 29) (v := 5) d_Lm_passWeekOnTrial_29 (by decide) ?_
    refine wh_isub (pc := 30) d_Lm_passWeekOnTrial_30 ?_
    refine wh_iconst (pc := 31) (v := (-1)) d_Lm_passWeekOnTrial_31 (by decide) ?_
    rw [e5]
    refine cv_Lm_246_i (pc := 32) (Or.inr rfl) rfl d_Lm_passWeekOnTrial_32 ⟨⟨by decide, by decide⟩, rfl, rfl⟩ (s_turn (Or.inr rfl) hS hF (by omega)) (Nat.le_of_ble_eq_true rfl) (fun h_32 x_32 e_32 => ?_)
    refine wh_pop (pc := 35) d_Lm_passWeekOnTrial_35 rfl ?_
    refine wh_goto (pc := 36) (tgt := 67) d_Lm_passWeekOnTrial_36 (by decide) ?_
    refine wh_vret (pc := 67) d_Lm_passWeekOnTrial_67 rfl ?_
    rcases e_32 with z | z
    · refine ⟨rfl, by rw [z.2.2.2]; exact fc_sI (by unfold scC; omega), ?_, fun k hk => ?_⟩
      · rw [z.2.2.2, lane_s1 (by rw [hS]; exact z.2.2.1), hS, ew, if_pos z.1]
      · rw [if_pos (show x < 13 by omega), z.2.2.2, gI_sN (by decide)]
    · refine ⟨rfl, by rw [z.2.2]; exact FC.rf h, ?_, fun k hk => ?_⟩
      · rw [z.2.2, hS, ew, if_neg (by rw [z.1]; decide)]
      · rw [if_pos (show x < 13 by omega), z.2.2]
  by_cases h3 : x < 13
  · have ew : wkS S x = setS S 5 2 (nI (x - 10)) := by unfold wkS; rw [if_neg h1, if_neg h2, if_pos h3]
    have e5 : nI x - 10 = nI (x - 10) := pk_sub (b := 10) (by omega)
    refine wh_iload_n (pc := 0) d_Lm_passWeekOnTrial_0 rfl rfl ?_
    refine wh_iconst (pc := 1) (v := 5) d_Lm_passWeekOnTrial_1 (by decide) ?_
    refine wh_icmp_ge (pc := 2) (tgt := 18) d_Lm_passWeekOnTrial_2 (by decide) (fun c_2 => ?_) (fun c_2 => absurd (nI_le (a := 5) (by omega) (by omega)) c_2)
    refine wh_iload_n (pc := 18) d_Lm_passWeekOnTrial_18 rfl rfl ?_
    refine wh_bipush (pc := 19) (v := 10) d_Lm_passWeekOnTrial_19 (by decide) ?_
    refine wh_icmp_ge (pc := 21) (tgt := 39) d_Lm_passWeekOnTrial_21 (by decide) (fun c_21 => ?_) (fun c_21 => absurd (nI_le (a := 10) (by omega) (by omega)) c_21)
    refine wh_iload_n (pc := 39) d_Lm_passWeekOnTrial_39 rfl rfl ?_
    refine wh_bipush (pc := 40) (v := 13) d_Lm_passWeekOnTrial_40 (by decide) ?_
    refine wh_icmp_ge (pc := 42) (tgt := 59) d_Lm_passWeekOnTrial_42 (by decide) (fun c_42 => absurd c_42 (nI_ge (b := 13) (by omega) (by omega))) (fun c_42 => ?_)
    refine wh_aload_n (pc := 45) d_Lm_passWeekOnTrial_45 rfl rfl ?_
    refine gf_Lm_24 (pc := 46) rfl d_Lm_passWeekOnTrial_46 ?_
    refine wh_iload_n (pc := 49) d_Lm_passWeekOnTrial_49 rfl rfl ?_
    refine wh_bipush (pc := 50) (v := 10) d_Lm_passWeekOnTrial_50 (by decide) ?_
    refine wh_isub (pc := 52) d_Lm_passWeekOnTrial_52 ?_
    rw [e5]
    refine pf_Lm_82 (pc := 53) (Or.inr rfl) rfl d_Lm_passWeekOnTrial_53 ?_
    refine wh_goto (pc := 56) (tgt := 67) d_Lm_passWeekOnTrial_56 (by decide) ?_
    refine wh_vret (pc := 67) d_Lm_passWeekOnTrial_67 rfl ?_
    refine ⟨rfl, fc_sI (by unfold scC; omega), ?_, fun k hk => ?_⟩
    · rw [lane_s8, hS, ew]
    · rw [if_pos h3, gI_sN (by decide)]
  have ew : wkS S x = nightS S := by unfold wkS; rw [if_neg h1, if_neg h2, if_neg h3]
  refine wh_iload_n (pc := 0) d_Lm_passWeekOnTrial_0 rfl rfl ?_
  refine wh_iconst (pc := 1) (v := 5) d_Lm_passWeekOnTrial_1 (by decide) ?_
  refine wh_icmp_ge (pc := 2) (tgt := 18) d_Lm_passWeekOnTrial_2 (by decide) (fun c_2 => ?_) (fun c_2 => absurd (nI_le (a := 5) (by omega) (by omega)) c_2)
  refine wh_iload_n (pc := 18) d_Lm_passWeekOnTrial_18 rfl rfl ?_
  refine wh_bipush (pc := 19) (v := 10) d_Lm_passWeekOnTrial_19 (by decide) ?_
  refine wh_icmp_ge (pc := 21) (tgt := 39) d_Lm_passWeekOnTrial_21 (by decide) (fun c_21 => ?_) (fun c_21 => absurd (nI_le (a := 10) (by omega) (by omega)) c_21)
  refine wh_iload_n (pc := 39) d_Lm_passWeekOnTrial_39 rfl rfl ?_
  refine wh_bipush (pc := 40) (v := 13) d_Lm_passWeekOnTrial_40 (by decide) ?_
  refine wh_icmp_ge (pc := 42) (tgt := 59) d_Lm_passWeekOnTrial_42 (by decide) (fun c_42 => ?_) (fun c_42 => absurd (nI_le (a := 13) (by omega) (by omega)) c_42)
  refine wh_aload_n (pc := 59) d_Lm_passWeekOnTrial_59 rfl rfl ?_
  refine gf_Lm_24 (pc := 60) rfl d_Lm_passWeekOnTrial_60 ?_
  refine cv_Lm_158_d (pc := 63) (Or.inr rfl) rfl d_Lm_passWeekOnTrial_63 ⟨⟨by decide, by decide⟩, rfl, rfl⟩ (s_night (Or.inr rfl) hS hF) (Nat.le_of_ble_eq_true rfl) ?_
  refine wh_pop (pc := 66) d_Lm_passWeekOnTrial_66 rfl ?_
  refine wh_vret (pc := 67) d_Lm_passWeekOnTrial_67 rfl ?_
  refine ⟨rfl, fc_ntH, ?_, fun k hk => ?_⟩
  · rw [lane_ntH, hS, ew]
  · rw [if_neg h3]; exact (nt_paid (b := 10) (by rw [hS]; exact hk)).trans (by rw [hS])
theorem c_weeks {l : Launch} {D : va_G} {base : Nat} {h : Hp} (hF : WFS (laneS h 2)) {m : Nat} (hm : 1 ≤ m) (hm3 : m ≤ 30) : SI l D base M_Lm_weeks [.ref 0, .int (nI m)] h (fun g x => FC (sL h 0 14 (sdN (gL h 0 14) m)) g ∧ x = wkX (laneS h 2) (fun k => gI h 6 k) (gL h 0 14) m) := by
  refine SP.of [some (.ref 0), some (.int (nI m)), none] (by decide) rfl (Nat.le_of_ble_eq_true rfl) ?_
  have hw5 := hF.1.1
  have hm6 := hF.2.1.1
  have hlc := lane_cp hw5 hm6
  have h0 : FC (sL h 0 14 (sdN (gL h 0 14) 0)) (cpN h 10 2 5 6) := by rw [show sdN (gL h 0 14) 0 = (gL h 0 14) from rfl, sL_id]; exact fc_cp
  refine wh_iload_n (pc := 0) d_Lm_weeks_0 rfl rfl ?_
  refine wh_iconst (pc := 1) (v := 1) d_Lm_weeks_1 (by decide) ?_
  refine wh_icmp_lt (pc := 2) (tgt := 11) d_Lm_weeks_2 (by decide) (fun c_2 => absurd c_2 (nI_nlt (b := 1) hm (by omega))) (fun c_2 => ?_)
  refine wh_iload_n (pc := 5) d_Lm_weeks_5 rfl rfl ?_
  refine wh_bipush (pc := 6) (v := 30) d_Lm_weeks_6 (by decide) ?_
  refine wh_icmp_le (pc := 8) (tgt := 14) d_Lm_weeks_8 (by decide) (fun c_8 => ?_) (fun c_8 => absurd (nI_le (b := 30) hm3 (by decide)) c_8)
  refine wh_aload_n (pc := 14) d_Lm_weeks_14 rfl rfl ?_
  refine gf_Lm_24 (pc := 15) rfl d_Lm_weeks_15 ?_
  refine wh_aload_n (pc := 18) d_Lm_weeks_18 rfl rfl ?_
  refine gf_Lm_20 (pc := 19) rfl d_Lm_weeks_19 ?_
  refine cv_Lm_72_d (pc := 22) (Or.inr rfl) rfl d_Lm_weeks_22 ⟨⟨by decide, by decide⟩, rfl, rfl⟩ (s_copy (Or.inr rfl) (Or.inl rfl) (by decide)) (Nat.le_of_ble_eq_true rfl) ?_
  refine wh_iconst (pc := 25) (v := 0) d_Lm_weeks_25 (by decide) ?_
  refine wh_istore_n (pc := 26) (ls2 := [_, _, _]) d_Lm_weeks_26 rfl (by decide) rfl rfl ?_
  refine wh_loopR m (fun i => [some (.ref 0), some (.int (nI m)), some (.int (nI i))]) (fun i g => FC (sL h 0 14 (sdN (gL h 0 14) i)) g ∧ laneS g 10 = wkT (laneS h 2) (gL h 0 14) i ∧ ∀ k, k < nW (laneS h 2) → gI g 14 k = wkQ (laneS h 2) (gL h 0 14) (fun k => gI h 6 k) i k) ?_ ?_ 0 _ (Nat.zero_le _) ⟨h0, hlc, fun k hk => ?_⟩
  rotate_left
  rotate_left
  · show gI (cpN h 10 2 5 6) 14 k = gI h 6 k
    rw [gI_cp, if_neg (by omega), if_pos (by omega)]
  · intro g hI
    obtain ⟨hfc, hl, hp⟩ := hI
    obtain ⟨hTF, hTn⟩ := wkT_wf hF (gL h 0 14) m
    have hl2 : laneS g 2 = (laneS h 2) := lane_ext (fun j _ _ => hfc.2 2 j (by unfold scC; omega)) (fun c j h1 h2 _ => hfc.2 c j (by unfold scC; omega))
    refine wh_iload_n (pc := 27) d_Lm_weeks_27 rfl rfl ?_
    refine wh_iload_n (pc := 28) d_Lm_weeks_28 rfl rfl ?_
    refine wh_icmp_ge (pc := 29) (tgt := 70) d_Lm_weeks_29 (by decide) (fun c_29 => ?_) (fun c_29 => absurd (nI_le (Nat.le_refl _) (by omega)) c_29)
    refine wh_aload_n (pc := 70) d_Lm_weeks_70 rfl rfl ?_
    refine gf_Lm_24 (pc := 71) rfl d_Lm_weeks_71 ?_
    refine cv_Lm_91_d (pc := 74) (Or.inr rfl) rfl d_Lm_weeks_74 ⟨⟨by decide, by decide⟩, rfl, rfl⟩ (s_paid (Or.inr rfl) hl hTF) (Nat.le_of_ble_eq_true rfl) ?_
    refine wh_aload_n (pc := 77) d_Lm_weeks_77 rfl rfl ?_
    refine gf_Lm_20 (pc := 78) rfl d_Lm_weeks_78 ?_
    refine cv_Lm_91_d (pc := 81) (Or.inl rfl) rfl d_Lm_weeks_81 ⟨⟨by decide, by decide⟩, rfl, rfl⟩ (s_paid (Or.inl rfl) hl2 hF) (Nat.le_of_ble_eq_true rfl) ?_
    refine wh_isub (pc := 84) d_Lm_weeks_84 ?_
    refine wh_iret (pc := 85) d_Lm_weeks_85 rfl ?_
    refine ⟨_, rfl, hfc, ?_⟩
    unfold wkX
    rw [hTn, sm_congr (nW (laneS h 2)) hp, sm_congr (f := fun k => gI g (2 + 4) k) (g := (fun k => gI h 6 k)) (nW (laneS h 2)) (fun k _ => hfc.2 6 k (by unfold scC; omega))]
  · intro i g hi hI ih
    obtain ⟨hfc, hl, hp⟩ := hI
    have hg := fc_gL hfc
    obtain ⟨hTF, hTn⟩ := wkT_wf hF (gL h 0 14) i
    obtain ⟨hx, hxe⟩ := lot_in (sdN (gL h 0 14) (i + 1))
    have hes : sdN (gL h 0 14) (i + 1) = (sdN (gL h 0 14) i) * 6364136223846793005 + 1442695040888963407 := rfl
    have hf1 : FC (sL h 0 14 (sdN (gL h 0 14) (i + 1))) (sL g 0 14 (sdN (gL h 0 14) (i + 1))) := FC.sl hfc
    have hl1 : laneS (sL g 0 14 (sdN (gL h 0 14) (i + 1))) 10 = (wkT (laneS h 2) (gL h 0 14) i) := hl
    refine wh_iload_n (pc := 27) d_Lm_weeks_27 rfl rfl ?_
    refine wh_iload_n (pc := 28) d_Lm_weeks_28 rfl rfl ?_
    refine wh_icmp_ge (pc := 29) (tgt := 70) d_Lm_weeks_29 (by decide) (fun c_29 => absurd c_29 (nI_ge hi (by omega))) (fun c_29 => ?_)
    refine wh_aload_n (pc := 32) d_Lm_weeks_32 rfl rfl ?_
    refine wh_aload_n (pc := 33) d_Lm_weeks_33 rfl rfl ?_
    refine gf_Lm_64 (pc := 34) rfl d_Lm_weeks_34 ?_
    refine wh_ldc2 (pc := 37) d_Lm_weeks_37 kc_Lm_221 ?_
    refine wh_lmul (pc := 40) d_Lm_weeks_40 ?_
    refine wh_ldc2 (pc := 41) d_Lm_weeks_41 kc_Lm_223 ?_
    refine wh_ladd (pc := 44) d_Lm_weeks_44 ?_
    rw [hg, ← hes]
    refine pf_Lm_64 (pc := 45) rfl d_Lm_weeks_45 ?_
    refine wh_aload_n (pc := 48) d_Lm_weeks_48 rfl rfl ?_
    refine wh_aload_n (pc := 49) d_Lm_weeks_49 rfl rfl ?_
    refine gf_Lm_64 (pc := 50) rfl d_Lm_weeks_50 ?_
    rw [show gL (sL g 0 14 (sdN (gL h 0 14) (i + 1))) 0 14 = (sdN (gL h 0 14) (i + 1)) from gL_sS _ _ _ _]
    refine wh_bipush (pc := 53) (v := 33) d_Lm_weeks_53 (by decide) ?_
    refine wh_lushr (pc := 55) d_Lm_weeks_55 ?_
    refine wh_ldc2 (pc := 56) d_Lm_weeks_56 kc_Lm_225 ?_
    refine wh_lrem (pc := 59) d_Lm_weeks_59 (by decide) ?_
    refine wh_l2i (pc := 60) d_Lm_weeks_60 ?_
    rw [show (((sdN (gL h 0 14) (i + 1)).toUInt64 >>> ((33 : Int32).toInt64.toUInt64 &&& Int64.toUInt64 63)).toInt64 - ((sdN (gL h 0 14) (i + 1)).toUInt64 >>> ((33 : Int32).toInt64.toUInt64 &&& Int64.toUInt64 63)).toInt64 / 20 * 20).toInt32 = nI (lotN (sdN (gL h 0 14) (i + 1))) from hxe]
    refine cv_Lm_227_v (pc := 61) rfl d_Lm_weeks_61 ⟨⟨by decide, by decide⟩, rfl, rfl⟩ (c_week hl1 hTF hx) (Nat.le_of_ble_eq_true rfl) (fun h_61 e_61 => ?_)
    refine wh_iinc (pc := 64) (ls2 := [_, _, _]) d_Lm_weeks_64 rfl (nI_inc _) (by decide) rfl rfl ?_
    refine wh_goto (pc := 67) (tgt := 27) d_Lm_weeks_67 (by decide) ?_
    refine ih _ ⟨hf1.tr e_61.1, e_61.2.1, fun k hk => ?_⟩
    rw [e_61.2.2 k (by rw [hTn]; exact hk)]
    rw [show gI (sL g 0 14 (sdN (gL h 0 14) (i + 1))) 14 k = wkQ (laneS h 2) (gL h 0 14) (fun k => gI h 6 k) i k from hp k hk]
    rfl
theorem r_weeks {l : Launch} {D : va_G} {base : Nat} {h : Hp} (hF8 : WFS (pageS h 48)) (hz8 : ∀ k, nW (pageS h 48) ≤ k → k < 5 → gI h 48 (5 + k) = 0) {m : Nat} (hm : 1 ≤ m) (hm3 : m ≤ 30) : SI l D base M_Md_weeks [.ref 42, .int (nI m)] h (fun g x => FM (sL h 42 24 (sdN (gL h 42 24) m)) g ∧ x = wkX (pageS h 48) (fun k => gI h 48 (5 + k)) (gL h 42 24) m) := by
  refine SP.of [some (.ref 42), some (.int (nI m)), none, none] (by decide) rfl (Nat.le_of_ble_eq_true rfl) ?_
  have hw5 := hF8.1.1
  have hm6 := hF8.2.1.1
  have hP0 : pageS (sI h 42 0 0) 48 = (pageS h 48) := fm_page fm_thr
  have hB := page_bg (h := sI h 42 0 0) (by rw [hP0]; exact hw5) (by rw [hP0]; exact hm6)
  rw [hP0] at hB
  have h0 : FM (sL h 42 24 (sdN (gL h 42 24) 0)) (bgH (sI h 42 0 0)) := by rw [show sdN (gL h 42 24) 0 = (gL h 42 24) from rfl, sL_id]; exact fm_thr.tr fm_bg
  have hbb : ∀ j, j < 24 → gI (bgH (sI h 42 0 0)) 49 j = gI h 48 j := fun j hj => (gI_fillY hj).trans (gI_sN (by decide))
  have i14 : ¬ inF (nI m).toInt64 1 30 = 0 := fun z => by
    rcases (inL (nI m) 1 30 rfl rfl).mp z with c | c
    · exact nI_nlt (b := 1) hm (by omega) c
    · exact nI_nlt (a := 30) hm3 (by decide) c
  refine wh_aload_n (pc := 0) d_Md_weeks_0 rfl rfl ?_
  refine wh_iconst (pc := 1) (v := 0) d_Md_weeks_1 (by decide) ?_
  refine pf_Md_62 (pc := 2) rfl d_Md_weeks_2 ?_
  refine wh_iload_n (pc := 5) d_Md_weeks_5 rfl rfl ?_
  refine wh_i2l (pc := 6) d_Md_weeks_6 ?_
  refine wh_lconst (pc := 7) (v := 1) d_Md_weeks_7 (by decide) ?_
  refine wh_ldc2 (pc := 8) d_Md_weeks_8 kc_Md_247 ?_
  refine cs_Md_69_d (pc := 11) rfl d_Md_weeks_11 ⟨⟨by decide, by decide⟩, rfl, rfl⟩ (m_in) (Nat.le_of_ble_eq_true rfl) ?_
  refine wh_if_ne (pc := 14) (tgt := 20) d_Md_weeks_14 (by decide) (fun c_14 => ?_) (fun c_14 => absurd c_14 i14)
  refine wh_aload_n (pc := 20) d_Md_weeks_20 rfl rfl ?_
  refine cv_Md_180_d (pc := 21) rfl d_Md_weeks_21 ⟨⟨by decide, by decide⟩, rfl, rfl⟩ ((show SD l D base M_Md_begin [.ref 42] (sI h 42 0 0) none (bgH (sI h 42 0 0)) from m_begin)) (Nat.le_of_ble_eq_true rfl) ?_
  refine wh_iconst (pc := 24) (v := 0) d_Md_weeks_24 (by decide) ?_
  refine wh_istore_n (pc := 25) (ls2 := [_, _, _, _]) d_Md_weeks_25 rfl (by decide) rfl rfl ?_
  refine wh_loopR m (fun i => [some (.ref 42), some (.int (nI m)), some (.int (nI i)), none]) (fun i g => FM (sL h 42 24 (sdN (gL h 42 24) i)) g ∧ pageS g 49 = wkT (pageS h 48) (gL h 42 24) i ∧ (∀ k, k < nW (pageS h 48) → gI g 49 (5 + k) = wkQ (pageS h 48) (gL h 42 24) (fun k => gI h 48 (5 + k)) i k) ∧ ∀ k, nW (pageS h 48) ≤ k → k < 5 → gI g 49 (5 + k) = 0) ?_ ?_ 0 _ (Nat.zero_le _) ⟨h0, hB, fun k hk => hbb _ (by omega), fun k hk h5 => (hbb _ (by omega)).trans (hz8 k hk h5)⟩
  · intro g hI
    obtain ⟨hfm, hl, hp, hq⟩ := hI
    refine wh_iload_n (pc := 26) d_Md_weeks_26 rfl rfl ?_
    refine wh_iload_n (pc := 27) d_Md_weeks_27 rfl rfl ?_
    refine wh_icmp_ge (pc := 28) (tgt := 122) d_Md_weeks_28 (by decide) (fun c_28 => ?_) (fun c_28 => absurd (nI_le (Nat.le_refl _) (by omega)) c_28)
    refine wh_aload_n (pc := 122) d_Md_weeks_122 rfl rfl ?_
    refine wh_aload_n (pc := 123) d_Md_weeks_123 rfl rfl ?_
    refine gf_Md_28 (pc := 124) rfl d_Md_weeks_124 ?_
    refine cv_Md_144_d (pc := 127) rfl d_Md_weeks_127 ⟨⟨by decide, by decide⟩, rfl, rfl⟩ (m_paid (Or.inr rfl)) (Nat.le_of_ble_eq_true rfl) ?_
    refine wh_aload_n (pc := 130) d_Md_weeks_130 rfl rfl ?_
    refine wh_aload_n (pc := 131) d_Md_weeks_131 rfl rfl ?_
    refine gf_Md_25 (pc := 132) rfl d_Md_weeks_132 ?_
    refine cv_Md_144_d (pc := 135) rfl d_Md_weeks_135 ⟨⟨by decide, by decide⟩, rfl, rfl⟩ (m_paid (Or.inl rfl)) (Nat.le_of_ble_eq_true rfl) ?_
    refine wh_isub (pc := 138) d_Md_weeks_138 ?_
    refine wh_iret (pc := 139) d_Md_weeks_139 rfl ?_
    refine ⟨_, rfl, hfm, ?_⟩
    unfold wkX
    have hn5 : nW (pageS h 48) + (5 - nW (pageS h 48)) = 5 := by omega
    have s1 := sm_pad (f := wkQ (pageS h 48) (gL h 42 24) (fun k => gI h 48 (5 + k)) m) (g := fun k => gI g 49 (5 + k)) (5 - nW (pageS h 48)) (nW (pageS h 48)) (fun k hk => (hp k hk).symm) (fun k h1 h2 => hq k h1 (by omega))
    have s2 := sm_pad (f := (fun k => gI h 48 (5 + k))) (g := fun k => gI g 48 (5 + k)) (5 - nW (pageS h 48)) (nW (pageS h 48)) (fun k hk => (hfm.2 48 (5 + k) (by unfold scM; omega)).symm) (fun k h1 h2 => (hfm.2 48 (5 + k) (by unfold scM; omega)).trans (hz8 k h1 (by omega)))
    rw [hn5] at s1 s2
    rw [s1, s2]
  · intro i g hi hI ih
    obtain ⟨hfm, hl, hp, hq⟩ := hI
    have hg := fm_gL hfm
    obtain ⟨hTF, hTn⟩ := wkT_wf hF8 (gL h 42 24) i
    obtain ⟨hx, hxe⟩ := lot_in (sdN (gL h 42 24) (i + 1))
    have hes : sdN (gL h 42 24) (i + 1) = (sdN (gL h 42 24) i) * 6364136223846793005 + 1442695040888963407 := rfl
    have hf1 : FM (sL h 42 24 (sdN (gL h 42 24) (i + 1))) (sL g 42 24 (sdN (gL h 42 24) (i + 1))) := FM.sl hfm
    have hl1 : pageS (sL g 42 24 (sdN (gL h 42 24) (i + 1))) 49 = (wkT (pageS h 48) (gL h 42 24) i) := hl
    have eT : wkT (pageS h 48) (gL h 42 24) (i + 1) = wkS (wkT (pageS h 48) (gL h 42 24) i) (lotN (sdN (gL h 42 24) (i + 1))) := rfl
    have hQ : ∀ k, (lotN (sdN (gL h 42 24) (i + 1))) < 13 → wkQ (pageS h 48) (gL h 42 24) (fun k => gI h 48 (5 + k)) (i + 1) k = wkQ (pageS h 48) (gL h 42 24) (fun k => gI h 48 (5 + k)) i k := fun k hx3 => if_pos hx3
    have hQn : ∀ k, ¬ (lotN (sdN (gL h 42 24) (i + 1))) < 13 → wkQ (pageS h 48) (gL h 42 24) (fun k => gI h 48 (5 + k)) (i + 1) k = wkQ (pageS h 48) (gL h 42 24) (fun k => gI h 48 (5 + k)) i k + owedF (wkT (pageS h 48) (gL h 42 24) i) k := fun k hx3 => if_neg hx3
    by_cases h1 : (lotN (sdN (gL h 42 24) (i + 1))) < 5
    · have ew : wkT (pageS h 48) (gL h 42 24) (i + 1) = if canF (wkT (pageS h 48) (gL h 42 24) i) (nI (lotN (sdN (gL h 42 24) (i + 1)))) 1 = 1 then setS (wkT (pageS h 48) (gL h 42 24) i) 1 (lotN (sdN (gL h 42 24) (i + 1))) ((wkT (pageS h 48) (gL h 42 24) i) 1 (lotN (sdN (gL h 42 24) (i + 1))) + 1) else (wkT (pageS h 48) (gL h 42 24) i) := by rw [eT]; unfold wkS; rw [if_pos h1]
      have ex : (10 : Int32) + 10 * (nI (lotN (sdN (gL h 42 24) (i + 1))) / 5) + (nI (lotN (sdN (gL h 42 24) (i + 1))) - nI (lotN (sdN (gL h 42 24) (i + 1))) / 5 * 5) = nI (10 * 1 + (lotN (sdN (gL h 42 24) (i + 1)))) := by
        rw [show (5 : Int32) = nI 5 from rfl, pk_rem (by omega) (by decide) (by decide), pk_div (by omega) (by decide) (by decide), show (lotN (sdN (gL h 42 24) (i + 1))) / 5 = 0 by omega, show (lotN (sdN (gL h 42 24) (i + 1))) % 5 = (lotN (sdN (gL h 42 24) (i + 1))) by omega]
        exact nI_add 10 _
      refine wh_iload_n (pc := 26) d_Md_weeks_26 rfl rfl ?_
      refine wh_iload_n (pc := 27) d_Md_weeks_27 rfl rfl ?_
      refine wh_icmp_ge (pc := 28) (tgt := 122) d_Md_weeks_28 (by decide) (fun c_28 => absurd c_28 (nI_ge hi (by omega))) (fun c_28 => ?_)
      refine wh_aload_n (pc := 31) d_Md_weeks_31 rfl rfl ?_
      refine wh_aload_n (pc := 32) d_Md_weeks_32 rfl rfl ?_
      refine gf_Md_243 (pc := 33) rfl d_Md_weeks_33 ?_
      refine wh_ldc2 (pc := 36) d_Md_weeks_36 kc_Md_249 ?_
      refine wh_lmul (pc := 39) d_Md_weeks_39 ?_
      refine wh_ldc2 (pc := 40) d_Md_weeks_40 kc_Md_251 ?_
      refine wh_ladd (pc := 43) d_Md_weeks_43 ?_
      rw [hg, ← hes]
      refine pf_Md_243 (pc := 44) rfl d_Md_weeks_44 ?_
      refine wh_aload_n (pc := 47) d_Md_weeks_47 rfl rfl ?_
      refine gf_Md_243 (pc := 48) rfl d_Md_weeks_48 ?_
      rw [show gL (sL g 42 24 (sdN (gL h 42 24) (i + 1))) 42 24 = (sdN (gL h 42 24) (i + 1)) from gL_sS _ _ _ _]
      refine wh_bipush (pc := 51) (v := 33) d_Md_weeks_51 (by decide) ?_
      refine wh_lushr (pc := 53) d_Md_weeks_53 ?_
      refine wh_ldc2 (pc := 54) d_Md_weeks_54 kc_Md_253 ?_
      refine wh_lrem (pc := 57) d_Md_weeks_57 (by decide) ?_
      refine wh_l2i (pc := 58) d_Md_weeks_58 ?_
      rw [show (((sdN (gL h 42 24) (i + 1)).toUInt64 >>> ((33 : Int32).toInt64.toUInt64 &&& Int64.toUInt64 63)).toInt64 - ((sdN (gL h 42 24) (i + 1)).toUInt64 >>> ((33 : Int32).toInt64.toUInt64 &&& Int64.toUInt64 63)).toInt64 / 20 * 20).toInt32 = nI (lotN (sdN (gL h 42 24) (i + 1))) from hxe]
      refine wh_istore_n (pc := 59) (ls2 := [_, _, _, _]) d_Md_weeks_59 rfl (by decide) rfl rfl ?_
      refine wh_iload_n (pc := 60) d_Md_weeks_60 rfl rfl ?_
      refine wh_bipush (pc := 61) (v := 10) d_Md_weeks_61 (by decide) ?_
      refine wh_icmp_ge (pc := 63) (tgt := 87) d_Md_weeks_63 (by decide) (fun c_63 => absurd c_63 (nI_ge (b := 10) (by omega) (by omega))) (fun c_63 => ?_)
      refine wh_aload_n (pc := 66) d_Md_weeks_66 rfl rfl ?_
      refine wh_bipush (pc := 67) (v := 10) d_Md_weeks_67 (by decide) ?_
      refine wh_bipush (pc := 69) (v := 10) d_Md_weeks_69 (by decide) ?_
      refine wh_iload_n (pc := 71) d_Md_weeks_71 rfl rfl ?_
      refine wh_iconst (pc := 72) (v := 5) d_Md_weeks_72 (by decide) ?_
      refine wh_idiv (pc := 73) d_Md_weeks_73 (by decide) ?_
      refine wh_imul (pc := 74) d_Md_weeks_74 ?_
      refine wh_iadd (pc := 75) d_Md_weeks_75 ?_
      refine wh_iload_n (pc := 76) d_Md_weeks_76 rfl rfl ?_
      refine wh_iconst (pc := 77) (v := 5) d_Md_weeks_77 (by decide) ?_
      refine wh_irem (pc := 78) d_Md_weeks_78 (by decide) ?_
      refine wh_iadd (pc := 79) d_Md_weeks_79 ?_
      rw [ex]
      refine cv_Md_215_i (pc := 80) rfl d_Md_weeks_80 ⟨⟨by decide, by decide⟩, rfl, rfl⟩ (m_does1 hl1 hTF (by omega)) (Nat.le_of_ble_eq_true rfl) (fun h_80 x_80 e_80 => ?_)
      refine wh_pop (pc := 83) d_Md_weeks_83 rfl ?_
      refine wh_goto (pc := 84) (tgt := 116) d_Md_weeks_84 (by decide) ?_
      refine wh_iinc (pc := 116) (ls2 := [_, _, _, _]) d_Md_weeks_116 rfl (nI_inc _) (by decide) rfl rfl ?_
      refine wh_goto (pc := 119) (tgt := 26) d_Md_weeks_119 (by decide) ?_
      refine wh_drop (i := 3) (ls2 := [_, _, _, _]) rfl ?_
      rcases e_80 with z | z
      · have ep := page_s1 (h := (sL g 42 24 (sdN (gL h 42 24) (i + 1)))) (k := (lotN (sdN (gL h 42 24) (i + 1)))) (v := (wkT (pageS h 48) (gL h 42 24) i) 1 (lotN (sdN (gL h 42 24) (i + 1))) + 1) (by rw [hl1]; exact z.2.2.1) (by rw [hl1]; exact hTF.1.1)
        rw [hl1] at ep
        refine ih _ ⟨by rw [z.2.2.2]; exact hf1.tr (fm_sI (by unfold scM; omega)), ?_, fun k hk => ?_, fun k hk h5 => ?_⟩
        · rw [z.2.2.2, ep]; exact (ew.trans (if_pos z.1)).symm
        · rw [z.2.2.2, gI_sM (by have := z.2.2.1; omega)]; exact (hp k hk).trans (hQ k (by omega)).symm
        · rw [z.2.2.2, gI_sM (by have := z.2.2.1; omega)]; exact hq k hk h5
      · refine ih _ ⟨by rw [z.2.2]; exact hf1, ?_, fun k hk => ?_, fun k hk h5 => ?_⟩
        · rw [z.2.2]; exact hl1.trans (ew.trans (if_neg (by rw [z.1]; decide))).symm
        · rw [z.2.2]; exact (hp k hk).trans (hQ k (by omega)).symm
        · rw [z.2.2]; exact hq k hk h5
    by_cases h2 : (lotN (sdN (gL h 42 24) (i + 1))) < 10
    · have ew : wkT (pageS h 48) (gL h 42 24) (i + 1) = if canF (wkT (pageS h 48) (gL h 42 24) i) (nI ((lotN (sdN (gL h 42 24) (i + 1))) - 5)) (-1) = 1 then setS (wkT (pageS h 48) (gL h 42 24) i) 1 ((lotN (sdN (gL h 42 24) (i + 1))) - 5) ((wkT (pageS h 48) (gL h 42 24) i) 1 ((lotN (sdN (gL h 42 24) (i + 1))) - 5) + -1) else (wkT (pageS h 48) (gL h 42 24) i) := by rw [eT]; unfold wkS; rw [if_neg h1, if_pos h2]
      have ex : (10 : Int32) + 10 * (nI (lotN (sdN (gL h 42 24) (i + 1))) / 5) + (nI (lotN (sdN (gL h 42 24) (i + 1))) - nI (lotN (sdN (gL h 42 24) (i + 1))) / 5 * 5) = nI (10 * 2 + ((lotN (sdN (gL h 42 24) (i + 1))) - 5)) := by
        rw [show (5 : Int32) = nI 5 from rfl, pk_rem (by omega) (by decide) (by decide), pk_div (by omega) (by decide) (by decide), show (lotN (sdN (gL h 42 24) (i + 1))) / 5 = 1 by omega, show (lotN (sdN (gL h 42 24) (i + 1))) % 5 = ((lotN (sdN (gL h 42 24) (i + 1))) - 5) by omega]
        exact nI_add 20 _
      refine wh_iload_n (pc := 26) d_Md_weeks_26 rfl rfl ?_
      refine wh_iload_n (pc := 27) d_Md_weeks_27 rfl rfl ?_
      refine wh_icmp_ge (pc := 28) (tgt := 122) d_Md_weeks_28 (by decide) (fun c_28 => absurd c_28 (nI_ge hi (by omega))) (fun c_28 => ?_)
      refine wh_aload_n (pc := 31) d_Md_weeks_31 rfl rfl ?_
      refine wh_aload_n (pc := 32) d_Md_weeks_32 rfl rfl ?_
      refine gf_Md_243 (pc := 33) rfl d_Md_weeks_33 ?_
      refine wh_ldc2 (pc := 36) d_Md_weeks_36 kc_Md_249 ?_
      refine wh_lmul (pc := 39) d_Md_weeks_39 ?_
      refine wh_ldc2 (pc := 40) d_Md_weeks_40 kc_Md_251 ?_
      refine wh_ladd (pc := 43) d_Md_weeks_43 ?_
      rw [hg, ← hes]
      refine pf_Md_243 (pc := 44) rfl d_Md_weeks_44 ?_
      refine wh_aload_n (pc := 47) d_Md_weeks_47 rfl rfl ?_
      refine gf_Md_243 (pc := 48) rfl d_Md_weeks_48 ?_
      rw [show gL (sL g 42 24 (sdN (gL h 42 24) (i + 1))) 42 24 = (sdN (gL h 42 24) (i + 1)) from gL_sS _ _ _ _]
      refine wh_bipush (pc := 51) (v := 33) d_Md_weeks_51 (by decide) ?_
      refine wh_lushr (pc := 53) d_Md_weeks_53 ?_
      refine wh_ldc2 (pc := 54) d_Md_weeks_54 kc_Md_253 ?_
      refine wh_lrem (pc := 57) d_Md_weeks_57 (by decide) ?_
      refine wh_l2i (pc := 58) d_Md_weeks_58 ?_
      rw [show (((sdN (gL h 42 24) (i + 1)).toUInt64 >>> ((33 : Int32).toInt64.toUInt64 &&& Int64.toUInt64 63)).toInt64 - ((sdN (gL h 42 24) (i + 1)).toUInt64 >>> ((33 : Int32).toInt64.toUInt64 &&& Int64.toUInt64 63)).toInt64 / 20 * 20).toInt32 = nI (lotN (sdN (gL h 42 24) (i + 1))) from hxe]
      refine wh_istore_n (pc := 59) (ls2 := [_, _, _, _]) d_Md_weeks_59 rfl (by decide) rfl rfl ?_
      refine wh_iload_n (pc := 60) d_Md_weeks_60 rfl rfl ?_
      refine wh_bipush (pc := 61) (v := 10) d_Md_weeks_61 (by decide) ?_
      refine wh_icmp_ge (pc := 63) (tgt := 87) d_Md_weeks_63 (by decide) (fun c_63 => absurd c_63 (nI_ge (b := 10) (by omega) (by omega))) (fun c_63 => ?_)
      refine wh_aload_n (pc := 66) d_Md_weeks_66 rfl rfl ?_
      refine wh_bipush (pc := 67) (v := 10) d_Md_weeks_67 (by decide) ?_
      refine wh_bipush (pc := 69) (v := 10) d_Md_weeks_69 (by decide) ?_
      refine wh_iload_n (pc := 71) d_Md_weeks_71 rfl rfl ?_
      refine wh_iconst (pc := 72) (v := 5) d_Md_weeks_72 (by decide) ?_
      refine wh_idiv (pc := 73) d_Md_weeks_73 (by decide) ?_
      refine wh_imul (pc := 74) d_Md_weeks_74 ?_
      refine wh_iadd (pc := 75) d_Md_weeks_75 ?_
      refine wh_iload_n (pc := 76) d_Md_weeks_76 rfl rfl ?_
      refine wh_iconst (pc := 77) (v := 5) d_Md_weeks_77 (by decide) ?_
      refine wh_irem (pc := 78) d_Md_weeks_78 (by decide) ?_
      refine wh_iadd (pc := 79) d_Md_weeks_79 ?_
      rw [ex]
      refine cv_Md_215_i (pc := 80) rfl d_Md_weeks_80 ⟨⟨by decide, by decide⟩, rfl, rfl⟩ (m_does2 hl1 hTF (by omega)) (Nat.le_of_ble_eq_true rfl) (fun h_80 x_80 e_80 => ?_)
      refine wh_pop (pc := 83) d_Md_weeks_83 rfl ?_
      refine wh_goto (pc := 84) (tgt := 116) d_Md_weeks_84 (by decide) ?_
      refine wh_iinc (pc := 116) (ls2 := [_, _, _, _]) d_Md_weeks_116 rfl (nI_inc _) (by decide) rfl rfl ?_
      refine wh_goto (pc := 119) (tgt := 26) d_Md_weeks_119 (by decide) ?_
      refine wh_drop (i := 3) (ls2 := [_, _, _, _]) rfl ?_
      rcases e_80 with z | z
      · have ep := page_s1 (h := (sL g 42 24 (sdN (gL h 42 24) (i + 1)))) (k := ((lotN (sdN (gL h 42 24) (i + 1))) - 5)) (v := (wkT (pageS h 48) (gL h 42 24) i) 1 ((lotN (sdN (gL h 42 24) (i + 1))) - 5) + (-1)) (by rw [hl1]; exact z.2.2.1) (by rw [hl1]; exact hTF.1.1)
        rw [hl1] at ep
        refine ih _ ⟨by rw [z.2.2.2]; exact hf1.tr (fm_sI (by unfold scM; omega)), ?_, fun k hk => ?_, fun k hk h5 => ?_⟩
        · rw [z.2.2.2, ep]; exact (ew.trans (if_pos z.1)).symm
        · rw [z.2.2.2, gI_sM (by have := z.2.2.1; omega)]; exact (hp k hk).trans (hQ k (by omega)).symm
        · rw [z.2.2.2, gI_sM (by have := z.2.2.1; omega)]; exact hq k hk h5
      · refine ih _ ⟨by rw [z.2.2]; exact hf1, ?_, fun k hk => ?_, fun k hk h5 => ?_⟩
        · rw [z.2.2]; exact hl1.trans (ew.trans (if_neg (by rw [z.1]; decide))).symm
        · rw [z.2.2]; exact (hp k hk).trans (hQ k (by omega)).symm
        · rw [z.2.2]; exact hq k hk h5
    by_cases h3 : (lotN (sdN (gL h 42 24) (i + 1))) < 13
    · have ew : wkT (pageS h 48) (gL h 42 24) (i + 1) = setS (wkT (pageS h 48) (gL h 42 24) i) 5 2 (nI ((lotN (sdN (gL h 42 24) (i + 1))) - 10)) := by rw [eT]; unfold wkS; rw [if_neg h1, if_neg h2, if_pos h3]
      have e5 : nI (lotN (sdN (gL h 42 24) (i + 1))) - 10 = nI ((lotN (sdN (gL h 42 24) (i + 1))) - 10) := pk_sub (b := 10) (by omega)
      have ep := page_s16 (h := (sL g 42 24 (sdN (gL h 42 24) (i + 1)))) (v := nI ((lotN (sdN (gL h 42 24) (i + 1))) - 10)) (by rw [hl1]; exact hTF.1.1) (by rw [hl1]; exact hTF.2.1.1)
      rw [hl1] at ep
      refine wh_iload_n (pc := 26) d_Md_weeks_26 rfl rfl ?_
      refine wh_iload_n (pc := 27) d_Md_weeks_27 rfl rfl ?_
      refine wh_icmp_ge (pc := 28) (tgt := 122) d_Md_weeks_28 (by decide) (fun c_28 => absurd c_28 (nI_ge hi (by omega))) (fun c_28 => ?_)
      refine wh_aload_n (pc := 31) d_Md_weeks_31 rfl rfl ?_
      refine wh_aload_n (pc := 32) d_Md_weeks_32 rfl rfl ?_
      refine gf_Md_243 (pc := 33) rfl d_Md_weeks_33 ?_
      refine wh_ldc2 (pc := 36) d_Md_weeks_36 kc_Md_249 ?_
      refine wh_lmul (pc := 39) d_Md_weeks_39 ?_
      refine wh_ldc2 (pc := 40) d_Md_weeks_40 kc_Md_251 ?_
      refine wh_ladd (pc := 43) d_Md_weeks_43 ?_
      rw [hg, ← hes]
      refine pf_Md_243 (pc := 44) rfl d_Md_weeks_44 ?_
      refine wh_aload_n (pc := 47) d_Md_weeks_47 rfl rfl ?_
      refine gf_Md_243 (pc := 48) rfl d_Md_weeks_48 ?_
      rw [show gL (sL g 42 24 (sdN (gL h 42 24) (i + 1))) 42 24 = (sdN (gL h 42 24) (i + 1)) from gL_sS _ _ _ _]
      refine wh_bipush (pc := 51) (v := 33) d_Md_weeks_51 (by decide) ?_
      refine wh_lushr (pc := 53) d_Md_weeks_53 ?_
      refine wh_ldc2 (pc := 54) d_Md_weeks_54 kc_Md_253 ?_
      refine wh_lrem (pc := 57) d_Md_weeks_57 (by decide) ?_
      refine wh_l2i (pc := 58) d_Md_weeks_58 ?_
      rw [show (((sdN (gL h 42 24) (i + 1)).toUInt64 >>> ((33 : Int32).toInt64.toUInt64 &&& Int64.toUInt64 63)).toInt64 - ((sdN (gL h 42 24) (i + 1)).toUInt64 >>> ((33 : Int32).toInt64.toUInt64 &&& Int64.toUInt64 63)).toInt64 / 20 * 20).toInt32 = nI (lotN (sdN (gL h 42 24) (i + 1))) from hxe]
      refine wh_istore_n (pc := 59) (ls2 := [_, _, _, _]) d_Md_weeks_59 rfl (by decide) rfl rfl ?_
      refine wh_iload_n (pc := 60) d_Md_weeks_60 rfl rfl ?_
      refine wh_bipush (pc := 61) (v := 10) d_Md_weeks_61 (by decide) ?_
      refine wh_icmp_ge (pc := 63) (tgt := 87) d_Md_weeks_63 (by decide) (fun c_63 => ?_) (fun c_63 => absurd (nI_le (a := 10) (by omega) (by omega)) c_63)
      refine wh_iload_n (pc := 87) d_Md_weeks_87 rfl rfl ?_
      refine wh_bipush (pc := 88) (v := 13) d_Md_weeks_88 (by decide) ?_
      refine wh_icmp_ge (pc := 90) (tgt := 107) d_Md_weeks_90 (by decide) (fun c_90 => absurd c_90 (nI_ge (b := 13) (by omega) (by omega))) (fun c_90 => ?_)
      refine wh_aload_n (pc := 93) d_Md_weeks_93 rfl rfl ?_
      refine gf_Md_28 (pc := 94) rfl d_Md_weeks_94 ?_
      refine wh_bipush (pc := 97) (v := 16) d_Md_weeks_97 (by decide) ?_
      refine wh_iload_n (pc := 99) d_Md_weeks_99 rfl rfl ?_
      refine wh_bipush (pc := 100) (v := 10) d_Md_weeks_100 (by decide) ?_
      refine wh_isub (pc := 102) d_Md_weeks_102 ?_
      rw [e5]
      refine wh_iast (pc := 103) d_Md_weeks_103 rfl (in_nI (k := 16) (by decide) (by decide)) ?_
      refine wh_goto (pc := 104) (tgt := 116) d_Md_weeks_104 (by decide) ?_
      refine wh_iinc (pc := 116) (ls2 := [_, _, _, _]) d_Md_weeks_116 rfl (nI_inc _) (by decide) rfl rfl ?_
      refine wh_goto (pc := 119) (tgt := 26) d_Md_weeks_119 (by decide) ?_
      refine wh_drop (i := 3) (ls2 := [_, _, _, _]) rfl ?_
      refine ih _ ⟨hf1.tr (fm_sI (by unfold scM; omega)), ep.trans ew.symm, fun k hk => ?_, fun k hk h5 => ?_⟩
      · rw [gI_sM (fun z => by have := z.2; have e16 : Int32.toNatClampNeg 16 = 16 := rfl; omega)]; exact (hp k hk).trans (hQ k h3).symm
      · rw [gI_sM (fun z => by have := z.2; have e16 : Int32.toNatClampNeg 16 = 16 := rfl; omega)]; exact hq k hk h5
    have ew : wkT (pageS h 48) (gL h 42 24) (i + 1) = nightS (wkT (pageS h 48) (gL h 42 24) i) := by rw [eT]; unfold wkS; rw [if_neg h1, if_neg h2, if_neg h3]
    have ep := page_nt (h := (sL g 42 24 (sdN (gL h 42 24) (i + 1)))) (by rw [hl1]; exact hTF.1.1) (by rw [hl1]; exact hTF.2.1.1)
    rw [hl1] at ep
    refine wh_iload_n (pc := 26) d_Md_weeks_26 rfl rfl ?_
    refine wh_iload_n (pc := 27) d_Md_weeks_27 rfl rfl ?_
    refine wh_icmp_ge (pc := 28) (tgt := 122) d_Md_weeks_28 (by decide) (fun c_28 => absurd c_28 (nI_ge hi (by omega))) (fun c_28 => ?_)
    refine wh_aload_n (pc := 31) d_Md_weeks_31 rfl rfl ?_
    refine wh_aload_n (pc := 32) d_Md_weeks_32 rfl rfl ?_
    refine gf_Md_243 (pc := 33) rfl d_Md_weeks_33 ?_
    refine wh_ldc2 (pc := 36) d_Md_weeks_36 kc_Md_249 ?_
    refine wh_lmul (pc := 39) d_Md_weeks_39 ?_
    refine wh_ldc2 (pc := 40) d_Md_weeks_40 kc_Md_251 ?_
    refine wh_ladd (pc := 43) d_Md_weeks_43 ?_
    rw [hg, ← hes]
    refine pf_Md_243 (pc := 44) rfl d_Md_weeks_44 ?_
    refine wh_aload_n (pc := 47) d_Md_weeks_47 rfl rfl ?_
    refine gf_Md_243 (pc := 48) rfl d_Md_weeks_48 ?_
    rw [show gL (sL g 42 24 (sdN (gL h 42 24) (i + 1))) 42 24 = (sdN (gL h 42 24) (i + 1)) from gL_sS _ _ _ _]
    refine wh_bipush (pc := 51) (v := 33) d_Md_weeks_51 (by decide) ?_
    refine wh_lushr (pc := 53) d_Md_weeks_53 ?_
    refine wh_ldc2 (pc := 54) d_Md_weeks_54 kc_Md_253 ?_
    refine wh_lrem (pc := 57) d_Md_weeks_57 (by decide) ?_
    refine wh_l2i (pc := 58) d_Md_weeks_58 ?_
    rw [show (((sdN (gL h 42 24) (i + 1)).toUInt64 >>> ((33 : Int32).toInt64.toUInt64 &&& Int64.toUInt64 63)).toInt64 - ((sdN (gL h 42 24) (i + 1)).toUInt64 >>> ((33 : Int32).toInt64.toUInt64 &&& Int64.toUInt64 63)).toInt64 / 20 * 20).toInt32 = nI (lotN (sdN (gL h 42 24) (i + 1))) from hxe]
    refine wh_istore_n (pc := 59) (ls2 := [_, _, _, _]) d_Md_weeks_59 rfl (by decide) rfl rfl ?_
    refine wh_iload_n (pc := 60) d_Md_weeks_60 rfl rfl ?_
    refine wh_bipush (pc := 61) (v := 10) d_Md_weeks_61 (by decide) ?_
    refine wh_icmp_ge (pc := 63) (tgt := 87) d_Md_weeks_63 (by decide) (fun c_63 => ?_) (fun c_63 => absurd (nI_le (a := 10) (by omega) (by omega)) c_63)
    refine wh_iload_n (pc := 87) d_Md_weeks_87 rfl rfl ?_
    refine wh_bipush (pc := 88) (v := 13) d_Md_weeks_88 (by decide) ?_
    refine wh_icmp_ge (pc := 90) (tgt := 107) d_Md_weeks_90 (by decide) (fun c_90 => ?_) (fun c_90 => absurd (nI_le (a := 13) (by omega) (by omega)) c_90)
    refine wh_aload_n (pc := 107) d_Md_weeks_107 rfl rfl ?_
    refine wh_aload_n (pc := 108) d_Md_weeks_108 rfl rfl ?_
    refine gf_Md_28 (pc := 109) rfl d_Md_weeks_109 ?_
    refine cv_Md_177_d (pc := 112) rfl d_Md_weeks_112 ⟨⟨by decide, by decide⟩, rfl, rfl⟩ (m_night (Or.inr rfl) hl1 hTF) (Nat.le_of_ble_eq_true rfl) ?_
    refine wh_pop (pc := 115) d_Md_weeks_115 rfl ?_
    refine wh_iinc (pc := 116) (ls2 := [_, _, _, _]) d_Md_weeks_116 rfl (nI_inc _) (by decide) rfl rfl ?_
    refine wh_goto (pc := 119) (tgt := 26) d_Md_weeks_119 (by decide) ?_
    refine wh_drop (i := 3) (ls2 := [_, _, _, _]) rfl ?_
    refine ih _ ⟨hf1.tr fm_nt, ep.trans ew.symm, fun k hk => ?_, fun k hk h5 => ?_⟩
    · rw [nt_pg (by rw [hl1]; exact hTF.2.1.1) (by rw [hl1, hTn]; exact hk) (by rw [hl1]; exact hTF.1.1), hl1, hQn k h3]; rw [show gI (sL g 42 24 (sdN (gL h 42 24) (i + 1))) 49 (5 + k) = _ from hp k hk]
    · rw [nt_pgz (by rw [hl1]; exact hTF.2.1.1) (by rw [hl1, hTn]; exact hk) h5]; exact hq k hk h5
theorem c_weeksB {l : Launch} {D : va_G} {base : Nat} {h : Hp} {w : Int32} (h0 : w < 1 ∨ 30 < w) : SD l D base M_Lm_weeks [.ref 0, .int w] h (some (.int (-2))) h := by
  refine SP.of [some (.ref 0), some (.int w), none] (by decide) rfl (Nat.le_of_ble_eq_true rfl) ?_
  refine wh_iload_n (pc := 0) d_Lm_weeks_0 rfl rfl ?_
  refine wh_iconst (pc := 1) (v := 1) d_Lm_weeks_1 (by decide) ?_
  refine wh_icmp_lt (pc := 2) (tgt := 11) d_Lm_weeks_2 (by decide) (fun c_2 => ?_) (fun c_2 => ?_)
  · refine wh_bipush (pc := 11) (v := (-2)) d_Lm_weeks_11 (by decide) ?_
    refine wh_iret (pc := 13) d_Lm_weeks_13 rfl ?_
    exact ⟨rfl, rfl⟩
  · refine wh_iload_n (pc := 5) d_Lm_weeks_5 rfl rfl ?_
    refine wh_bipush (pc := 6) (v := 30) d_Lm_weeks_6 (by decide) ?_
    refine wh_icmp_le (pc := 8) (tgt := 14) d_Lm_weeks_8 (by decide) (fun c_8 => ?_) (fun c_8 => ?_)
    · rw [i_lt, i_lt] at h0
      rw [i_lt] at c_2
      rw [i_le] at c_8
      omega
    · refine wh_bipush (pc := 11) (v := (-2)) d_Lm_weeks_11 (by decide) ?_
      refine wh_iret (pc := 13) d_Lm_weeks_13 rfl ?_
      exact ⟨rfl, rfl⟩
theorem r_weeksB {l : Launch} {D : va_G} {base : Nat} {h : Hp} {w : Int32} (h0 : w < 1 ∨ 30 < w) : SD l D base M_Md_weeks [.ref 42, .int w] h (some (.int (-2))) (sI h 42 0 0) := by
  refine SP.of [some (.ref 42), some (.int w), none, none] (by decide) rfl (Nat.le_of_ble_eq_true rfl) ?_
  refine wh_aload_n (pc := 0) d_Md_weeks_0 rfl rfl ?_
  refine wh_iconst (pc := 1) (v := 0) d_Md_weeks_1 (by decide) ?_
  refine pf_Md_62 (pc := 2) rfl d_Md_weeks_2 ?_
  refine wh_iload_n (pc := 5) d_Md_weeks_5 rfl rfl ?_
  refine wh_i2l (pc := 6) d_Md_weeks_6 ?_
  refine wh_lconst (pc := 7) (v := 1) d_Md_weeks_7 (by decide) ?_
  refine wh_ldc2 (pc := 8) d_Md_weeks_8 kc_Md_247 ?_
  refine cs_Md_69_d (pc := 11) rfl d_Md_weeks_11 ⟨⟨by decide, by decide⟩, rfl, rfl⟩ (m_in) (Nat.le_of_ble_eq_true rfl) ?_
  refine wh_if_ne (pc := 14) (tgt := 20) d_Md_weeks_14 (by decide) (fun c_14 => absurd ((inL w 1 30 rfl rfl).mpr h0) c_14) (fun c_14 => ?_)
  refine wh_bipush (pc := 17) (v := (-2)) d_Md_weeks_17 (by decide) ?_
  refine wh_iret (pc := 19) d_Md_weeks_19 rfl ?_
  exact ⟨rfl, rfl⟩
theorem x_weeks {l : Launch} {D : va_G} {base : Nat} (w : Int32) : CMD l D base M_Lm_weeks M_Md_weeks [.int w] := by
  intro h hr
  by_cases h0 : w < 1 ∨ 30 < w
  · exact SI.of (c_weeksB h0) (SI.of (r_weeksB h0) ⟨rfl, hr.fm fm_thr⟩)
  obtain ⟨m, hm3, rfl⟩ := n30 h0
  have hm : 1 ≤ m := by
    rw [i_lt, i_lt, i_1, nI_toInt (by omega)] at h0
    omega
  obtain ⟨hSt, hF⟩ := hr.street
  obtain ⟨hpd, hpk⟩ := hr.paid
  refine (c_weeks hF hm hm3).cons (fun h1 x e1 => ?_)
  obtain ⟨hfc, hx⟩ := e1
  have hI : ∀ c j, ¬ scC c → gI h1 c j = gI h c j := fun c j q => hfc.2 c j q
  have hP : pageS h1 48 = pageS h 48 := page_cls (fun c j hc => hI c j (by unfold scC; omega))
  have hz : ∀ k, nW (pageS h1 48) ≤ k → k < 5 → gI h1 48 (5 + k) = 0 := fun k h1' h5 => by
    rw [hI 48 (5 + k) (by unfold scC; omega)]
    rw [hP] at h1'
    obtain ⟨n, mm, ⟨⟨a1, a2, a3⟩, b1, c1, c2, s1, s2, s3⟩, -⟩ := hr
    have en : nW (pageS h 48) = n := by show (gI h 42 4).toNatClampNeg = n; rw [a3]; exact cl_nI (by omega)
    exact s2 k (by omega) h5
  have hgl : gL h1 42 24 = gL h 0 14 := by
    have : gL h1 42 24 = gL (sL h 0 14 (sdN (gL h 0 14) m)) 42 24 := by show h1.2.1 42 24 = (sL h 0 14 (sdN (gL h 0 14) m)).2.1 42 24; rw [hfc.1]
    rw [gL_sL, if_neg (by decide)] at this
    rw [this]
    obtain ⟨n, mm, r1, r2, r3, r4, r5, r6, r7⟩ := hr
    exact r7.symm
  refine (r_weeks (by rw [hP, ← hSt]; exact hF) hz hm hm3).cons (fun h2 y e2 => ?_)
  obtain ⟨hfm, hy⟩ := e2
  refine ⟨?_, ?_⟩
  · rw [hy, hx, hP, ← hSt, hgl]
    exact wkX_congr (fun k hk => (hI 48 (5 + k) (by unfold scC; omega)).trans (hpk k hk).symm)
  · rw [hgl] at hfm
    have hr2 := (rel_seed (v := sdN (gL h 0 14) m) hr).2
    refine hr2.ag (fun c j q => ?_) ?_
    · have q1 : gI h2 c j = gI h1 c j := hfm.2 c j (fun z => by unfold T_all T_st T_ac T_sl T_ct T_tx at q; unfold scM at z; omega)
      have q2 : gI h1 c j = gI h c j := hI c j (fun z => by unfold T_all T_st T_ac T_sl T_ct T_tx at q; unfold scC at z; omega)
      rw [q1, q2]
      show _ = gI (sI (sL h 0 14 _) 42 0 0) c j
      rw [gI_sM (fun z => by unfold T_all T_st T_ac T_sl T_ct T_tx at q; omega)]
      rfl
    · rw [hfm.1]
      have e1 : h1.2.1 = (sL h 0 14 (sdN (gL h 0 14) m)).2.1 := congrArg Prod.fst hfc.1
      have e2 : h1.2.2 = (sL h 0 14 (sdN (gL h 0 14) m)).2.2 := congrArg Prod.snd hfc.1
      refine Prod.ext ?_ e2
      funext b j
      show (if b = 42 ∧ j = 24 then _ else h1.2.1 b j) = (if b = 42 ∧ j = 24 then _ else (sL h 0 14 (sdN (gL h 0 14) m)).2.1 b j)
      rw [e1]

theorem bit_in : ∀ n, n < 6 → ∀ d, d < 2 ^ n → bitC (nI d) = nI (bitC (nI d)).toNatClampNeg ∧ (bitC (nI d)).toNatClampNeg ≤ n := by decide +kernel
theorem shl_n : ∀ n, n < 6 → (1 : Int32) <<< (nI n &&& 31) = nI (2 ^ n) := by decide +kernel
theorem two_le5 {n : Nat} (h : n ≤ 5) : 2 ^ n ≤ 32 := Nat.le_trans (Nat.pow_le_pow_right (by decide) h) (by decide)
theorem ten_le5 {n : Nat} (h : n ≤ 5) : 10 ^ n ≤ 100000 := Nat.le_trans (Nat.pow_le_pow_right (by decide) h) (by decide)
theorem pow_nI (a : Nat) : ∀ k, powN (nI a) k = nI (a ^ k)
  | 0 => rfl
  | k + 1 => by
    show powN (nI a) k * nI a = _
    rw [pow_nI a k, pk_mul, Nat.pow_succ]
theorem pow_10 (n : Nat) : powN 10 n = nI (10 ^ n) := pow_nI 10 n
def clF (d : Int32) (v : Int32) (k : Nat) : Int32 := if hasB d k then maxI 0 (v - 2) else v
def clS (S : St) (d : Int32) : St := rowS S (fun k => clF d (S 1 k) k)
theorem mx_2 : ∀ p, p < 10 → maxI 0 (nI p - 2) = nI (p - 2) ∧ (if nI p < 2 then 0 else nI p - 2) = nI (p - 2) := by decide +kernel
theorem cl_wf {S : St} (hF : WFS S) (d : Int32) : WFS (clS S d) := wf_row hF (fun k hk => by
  obtain ⟨p, hp, e⟩ := (hF.2.2.1 k hk).2
  unfold clF
  rw [e]
  by_cases c : hasB d k
  · rw [if_pos c, (mx_2 p (by omega)).1]; exact ⟨p - 2, by omega, rfl⟩
  · rw [if_neg c]; exact ⟨p, hp, rfl⟩)
def bn (d : Nat) : Nat := (bitC (nI d)).toNatClampNeg
def cdN (S : St) (t : Int32) (x : Nat) : Nat → Int32
  | 0 => 0
  | d + 1 => if allF (clS S (nI d)) ≤ t then cdN S t x d + powN (nI x) (bn d) * powN (nI (10 - x)) (nW S - bn d) else cdN S t x d
theorem cd_nat {S : St} {t : Int32} {x : Nat} (hx : x ≤ 10) (hw : nW S ≤ 5) : ∀ d, d ≤ 2 ^ nW S → ∃ s, s ≤ d * 100000 ∧ cdN S t x d = nI s
  | 0, _ => ⟨0, Nat.zero_le _, rfl⟩
  | d + 1, h => by
    obtain ⟨s, h1, h2⟩ := cd_nat (S := S) (t := t) hx hw d (by omega)
    have hb := (bit_in (nW S) (by omega) d (by omega)).2
    show ∃ s, s ≤ (d + 1) * 100000 ∧ (if allF (clS S (nI d)) ≤ t then cdN S t x d + powN (nI x) (bn d) * powN (nI (10 - x)) (nW S - bn d) else cdN S t x d) = nI s
    by_cases c : allF (clS S (nI d)) ≤ t
    · rw [if_pos c, h2, pow_nI, pow_nI, pk_mul, nI_add]
      refine ⟨_, ?_, rfl⟩
      have e1 : x ^ bn d ≤ 10 ^ bn d := Nat.pow_le_pow_left hx _
      have e2 : (10 - x) ^ (nW S - bn d) ≤ 10 ^ (nW S - bn d) := Nat.pow_le_pow_left (by omega) _
      have e3 := Nat.mul_le_mul e1 e2
      rw [← Nat.pow_add, show bn d + (nW S - bn d) = nW S by unfold bn; omega] at e3
      have e4 := ten_le5 hw
      omega
    · rw [if_neg c]
      exact ⟨s, Nat.le_trans h1 (Nat.mul_le_mul_right _ (Nat.le_succ d)), h2⟩
def cloF (S : St) (t x b : Int32) : Int32 := if t < 0 ∨ 99 < t then -2 else if x < 0 ∨ 10 < x then -2 else frF (cdN S t x.toNatClampNeg (2 ^ nW S)) (cdN S t x.toNatClampNeg (2 ^ nW S)).toNatClampNeg (10 ^ nW S) b
theorem cd_abs {S : St} {t : Int32} {x : Nat} (hx : x ≤ 10) (hw : nW S ≤ 5) : absI (cdN S t x (2 ^ nW S)) = nI (cdN S t x (2 ^ nW S)).toNatClampNeg ∧ (cdN S t x (2 ^ nW S)).toNatClampNeg < 2 ^ 30 := by
  obtain ⟨s, h1, h2⟩ := cd_nat (S := S) (t := t) hx hw (2 ^ nW S) (Nat.le_refl _)
  have := two_le5 hw
  rw [h2, abs_nI (by omega), cl_nI (by omega)]
  exact ⟨rfl, by omega⟩
theorem x10 {x : Int32} (h : ¬ (x < 0 ∨ 10 < x)) : ∃ n, n ≤ 10 ∧ x = nI n := by
  rw [i_lt, i_lt, i_0, show (10 : Int32).toInt = 10 from rfl] at h
  exact nI_back (by omega) (n := 10) (by omega) (by decide)
theorem c_clouds {l : Launch} {D : va_G} {base : Nat} {h : Hp} (hr : Rel h) (t w b : Int32) : SI l D base M_Lm_clouds [.ref 0, .int t, .int w, .int b] h (fun g x => FC h g ∧ x = cloF (laneS h 2) t w b) := by
  refine SP.of [some (.ref 0), some (.int t), some (.int w), some (.int b), none, none, none, none] (by decide) rfl (Nat.le_of_ble_eq_true rfl) ?_
  obtain ⟨hSt, hF⟩ := hr.street
  have hw5 := hF.1.1
  have hm6 := hF.2.1.1
  by_cases ht : t < 0 ∨ 99 < t
  · refine wh_iload_n (pc := 0) d_Lm_clouds_0 rfl rfl ?_
    refine cs_Lm_165_d (pc := 1) rfl d_Lm_clouds_1 ⟨⟨by decide, by decide⟩, rfl, rfl⟩ (s_isSum) (Nat.le_of_ble_eq_true rfl) ?_
    refine wh_if_eq (pc := 4) (tgt := 17) d_Lm_clouds_4 (by decide) (fun c_4 => ?_) (fun c_4 => absurd (rg_no ht) c_4)
    refine wh_bipush (pc := 17) (v := (-2)) d_Lm_clouds_17 (by decide) ?_
    refine wh_iret (pc := 19) d_Lm_clouds_19 rfl ?_
    exact ⟨_, rfl, FC.rf h, by unfold cloF; rw [if_pos ht]⟩
  have hts : ¬ rg t 0 99 = 0 := by rw [rg_yes ht]; decide
  by_cases hw : w < 0 ∨ 10 < w
  · have hm : cloF (laneS h 2) t w b = -2 := by unfold cloF; rw [if_neg ht, if_pos hw]
    refine wh_iload_n (pc := 0) d_Lm_clouds_0 rfl rfl ?_
    refine cs_Lm_165_d (pc := 1) rfl d_Lm_clouds_1 ⟨⟨by decide, by decide⟩, rfl, rfl⟩ (s_isSum) (Nat.le_of_ble_eq_true rfl) ?_
    refine wh_if_eq (pc := 4) (tgt := 17) d_Lm_clouds_4 (by decide) (fun c_4 => absurd c_4 hts) (fun c_4 => ?_)
    refine wh_iload_n (pc := 7) d_Lm_clouds_7 rfl rfl ?_
    refine wh_if_lt (pc := 8) (tgt := 17) d_Lm_clouds_8 (by decide) (fun c_8 => ?_) (fun c_8 => ?_)
    · refine wh_bipush (pc := 17) (v := (-2)) d_Lm_clouds_17 (by decide) ?_
      refine wh_iret (pc := 19) d_Lm_clouds_19 rfl ?_
      exact ⟨_, rfl, FC.rf h, hm.symm⟩
    · refine wh_iload_n (pc := 11) d_Lm_clouds_11 rfl rfl ?_
      refine wh_bipush (pc := 12) (v := 10) d_Lm_clouds_12 (by decide) ?_
      refine wh_icmp_le (pc := 14) (tgt := 20) d_Lm_clouds_14 (by decide) (fun c_14 => ?_) (fun c_14 => ?_)
      · rw [i_lt, i_lt] at hw
        rw [i_lt] at c_8
        rw [i_le] at c_14
        omega
      · refine wh_bipush (pc := 17) (v := (-2)) d_Lm_clouds_17 (by decide) ?_
        refine wh_iret (pc := 19) d_Lm_clouds_19 rfl ?_
        exact ⟨_, rfl, FC.rf h, hm.symm⟩
  obtain ⟨x, hx, rfl⟩ := x10 hw
  have hcx := cl_nI (show x < 2 ^ 31 by omega)
  have h2n := two_le5 hw5
  have h10 := ten_le5 hw5
  have hp10 : 0 < 10 ^ nW (laneS h 2) := Nat.pos_of_ne_zero (by simp)
  obtain ⟨ca, cb⟩ := cd_abs (S := (laneS h 2)) (t := t) hx hw5
  have e26 : gI h 2 6 = nI (nW (laneS h 2)) := wf_w hF
  refine wh_iload_n (pc := 0) d_Lm_clouds_0 rfl rfl ?_
  refine cs_Lm_165_d (pc := 1) rfl d_Lm_clouds_1 ⟨⟨by decide, by decide⟩, rfl, rfl⟩ (s_isSum) (Nat.le_of_ble_eq_true rfl) ?_
  refine wh_if_eq (pc := 4) (tgt := 17) d_Lm_clouds_4 (by decide) (fun c_4 => absurd c_4 hts) (fun c_4 => ?_)
  refine wh_iload_n (pc := 7) d_Lm_clouds_7 rfl rfl ?_
  refine wh_if_lt (pc := 8) (tgt := 17) d_Lm_clouds_8 (by decide) (fun c_8 => absurd c_8 (fun z => hw (Or.inl z))) (fun c_8 => ?_)
  refine wh_iload_n (pc := 11) d_Lm_clouds_11 rfl rfl ?_
  refine wh_bipush (pc := 12) (v := 10) d_Lm_clouds_12 (by decide) ?_
  refine wh_icmp_le (pc := 14) (tgt := 20) d_Lm_clouds_14 (by decide) (fun c_14 => ?_) (fun c_14 => absurd (by rw [i_le]; rw [i_lt, i_lt] at hw; omega) c_14)
  refine wh_iconst (pc := 20) (v := 1) d_Lm_clouds_20 (by decide) ?_
  refine wh_aload_n (pc := 21) d_Lm_clouds_21 rfl rfl ?_
  refine gf_Lm_20 (pc := 22) rfl d_Lm_clouds_22 ?_
  refine gf_Lm_76 (pc := 25) (Or.inl rfl) rfl d_Lm_clouds_25 ?_
  refine wh_ishl (pc := 28) d_Lm_clouds_28 ?_
  rw [e26, shl_n _ (by omega)]
  refine wh_istore (pc := 29) (ls2 := [_, _, _, _, _, _, _, _]) d_Lm_clouds_29 (by decide) rfl rfl ?_
  refine wh_iconst (pc := 31) (v := 0) d_Lm_clouds_31 (by decide) ?_
  refine wh_istore (pc := 32) (ls2 := [_, _, _, _, _, _, _, _]) d_Lm_clouds_32 (by decide) rfl rfl ?_
  refine wh_iconst (pc := 34) (v := 0) d_Lm_clouds_34 (by decide) ?_
  refine wh_istore (pc := 35) (ls2 := [_, _, _, _, _, _, _, _]) d_Lm_clouds_35 (by decide) rfl rfl ?_
  refine wh_loopR (2 ^ nW (laneS h 2)) (fun i => [some (.ref 0), some (.int t), some (.int (nI x)), some (.int b), some (.int (nI (2 ^ nW (laneS h 2)))), some (.int (cdN (laneS h 2) t x i)), some (.int (nI i)), none]) (fun i g => FC h g) ?_ ?_ 0 h (Nat.zero_le _) (FC.rf h)
  · intro g hI
    have h26 : gI g 2 6 = nI (nW (laneS h 2)) := (hI.2 2 6 (by unfold scC; omega)).trans (wf_w hF)
    refine wh_iload (pc := 37) d_Lm_clouds_37 rfl ?_
    refine wh_iload (pc := 39) d_Lm_clouds_39 rfl ?_
    refine wh_icmp_ge (pc := 41) (tgt := 117) d_Lm_clouds_41 (by decide) (fun c_41 => ?_) (fun c_41 => absurd (nI_le (Nat.le_refl _) (by omega)) c_41)
    refine wh_iload (pc := 117) d_Lm_clouds_117 rfl ?_
    refine wh_bipush (pc := 119) (v := 10) d_Lm_clouds_119 (by decide) ?_
    refine wh_aload_n (pc := 121) d_Lm_clouds_121 rfl rfl ?_
    refine gf_Lm_20 (pc := 122) rfl d_Lm_clouds_122 ?_
    refine gf_Lm_76 (pc := 125) (Or.inl rfl) rfl d_Lm_clouds_125 ?_
    rw [h26]
    refine cs_Lm_172_d (pc := 128) rfl d_Lm_clouds_128 ⟨⟨by decide, by decide⟩, rfl, rfl⟩ (c_power (by omega)) (Nat.le_of_ble_eq_true rfl) ?_
    rw [pow_10]
    refine wh_iload_n (pc := 131) d_Lm_clouds_131 rfl rfl ?_
    refine cs_Lm_207_d (pc := 132) rfl d_Lm_clouds_132 ⟨⟨by decide, by decide⟩, rfl, rfl⟩ (c_told ca cb hp10 (by omega)) (Nat.le_of_ble_eq_true rfl) ?_
    refine wh_iret (pc := 135) d_Lm_clouds_135 rfl ?_
    exact ⟨_, rfl, hI, by unfold cloF; rw [if_neg ht, if_neg hw, hcx]⟩
  · intro i g hi hI ih
    have hlg : laneS g 2 = (laneS h 2) := fc_lane hI
    obtain ⟨hbn, hbl⟩ := bit_in (nW (laneS h 2)) (by omega) i hi
    have hbl : bn i ≤ nW (laneS h 2) := hbl
    have hbn : bitC (nI i) = nI (bn i) := hbn
    have hlc : laneS (cpN g 10 2 5 6) 10 = (laneS h 2) := by rw [lane_cp (by rw [hlg]; exact hw5) (by rw [hlg]; exact hm6), hlg]
    have hT : laneS (fillA (cpN g 10 2 5 6) (10 + 2) (fun k => if hasB (nI i) k then maxI 0 (gI (cpN g 10 2 5 6) (10 + 2) k - 2) else gI (cpN g 10 2 5 6) (10 + 2) k) (nW (laneS h 2))) 10 = clS (laneS h 2) (nI i) := by
      rw [show nW (laneS h 2) = nW (laneS (cpN g 10 2 5 6) 10) by rw [hlc], lane_row, hlc]
      exact row_congr (fun k hk => by unfold clF; rw [show gI (cpN g 10 2 5 6) (10 + 2) k = (laneS h 2) 1 k by rw [← hlc]; exact la1 (by rw [hlc]; exact hk)])
    have hTF := cl_wf hF (nI i)
    have hG : FC h (fillA (cpN g 10 2 5 6) (10 + 2) (fun k => if hasB (nI i) k then maxI 0 (gI (cpN g 10 2 5 6) (10 + 2) k - 2) else gI (cpN g 10 2 5 6) (10 + 2) k) (nW (laneS h 2))) := (hI.tr fc_cp).tr (fc_fill (by unfold scC; omega))
    have hG2 : FC h (fillA (fillA (cpN g 10 2 5 6) (10 + 2) (fun k => if hasB (nI i) k then maxI 0 (gI (cpN g 10 2 5 6) (10 + 2) k - 2) else gI (cpN g 10 2 5 6) (10 + 2) k) (nW (laneS h 2))) (10 + 7) (owedF (clS (laneS h 2) (nI i))) (nW (clS (laneS h 2) (nI i)))) := hG.tr (fc_fill (by unfold scC; omega))
    have h26 : gI (fillA (fillA (cpN g 10 2 5 6) (10 + 2) (fun k => if hasB (nI i) k then maxI 0 (gI (cpN g 10 2 5 6) (10 + 2) k - 2) else gI (cpN g 10 2 5 6) (10 + 2) k) (nW (laneS h 2))) (10 + 7) (owedF (clS (laneS h 2) (nI i))) (nW (clS (laneS h 2) (nI i)))) 2 6 = nI (nW (laneS h 2)) := (hG2.2 2 6 (by unfold scC; omega)).trans (wf_w hF)
    have es : cdN (laneS h 2) t x (i + 1) = if allF (clS (laneS h 2) (nI i)) ≤ t then cdN (laneS h 2) t x i + powN (nI x) (bn i) * powN (nI (10 - x)) (nW (laneS h 2) - bn i) else cdN (laneS h 2) t x i := rfl
    refine wh_iload (pc := 37) d_Lm_clouds_37 rfl ?_
    refine wh_iload (pc := 39) d_Lm_clouds_39 rfl ?_
    refine wh_icmp_ge (pc := 41) (tgt := 117) d_Lm_clouds_41 (by decide) (fun c_41 => absurd c_41 (nI_ge hi (by omega))) (fun c_41 => ?_)
    refine wh_aload_n (pc := 44) d_Lm_clouds_44 rfl rfl ?_
    refine gf_Lm_24 (pc := 45) rfl d_Lm_clouds_45 ?_
    refine wh_aload_n (pc := 48) d_Lm_clouds_48 rfl rfl ?_
    refine gf_Lm_20 (pc := 49) rfl d_Lm_clouds_49 ?_
    refine cv_Lm_72_d (pc := 52) (Or.inr rfl) rfl d_Lm_clouds_52 ⟨⟨by decide, by decide⟩, rfl, rfl⟩ (s_copy (Or.inr rfl) (Or.inl rfl) (by decide)) (Nat.le_of_ble_eq_true rfl) ?_
    refine wh_aload_n (pc := 55) d_Lm_clouds_55 rfl rfl ?_
    refine gf_Lm_24 (pc := 56) rfl d_Lm_clouds_56 ?_
    refine wh_iload (pc := 59) d_Lm_clouds_59 rfl ?_
    refine cv_Lm_218_d (pc := 61) (Or.inr rfl) rfl d_Lm_clouds_61 ⟨⟨by decide, by decide⟩, rfl, rfl⟩ (s_cloud (Or.inr rfl) hlc hF) (Nat.le_of_ble_eq_true rfl) ?_
    refine wh_aload_n (pc := 64) d_Lm_clouds_64 rfl rfl ?_
    refine gf_Lm_24 (pc := 65) rfl d_Lm_clouds_65 ?_
    refine cv_Lm_95_d (pc := 68) (Or.inr rfl) rfl d_Lm_clouds_68 ⟨⟨by decide, by decide⟩, rfl, rfl⟩ (s_all (Or.inr rfl) hT hTF) (Nat.le_of_ble_eq_true rfl) ?_
    refine wh_iload_n (pc := 71) d_Lm_clouds_71 rfl rfl ?_
    refine wh_icmp_gt (pc := 72) (tgt := 111) d_Lm_clouds_72 (by decide) (fun c_72 => ?_) (fun c_72 => ?_)
    · refine wh_iinc (pc := 111) (ls2 := [_, _, _, _, _, _, _, _]) d_Lm_clouds_111 rfl (nI_inc _) (by decide) rfl rfl ?_
      refine wh_goto (pc := 114) (tgt := 37) d_Lm_clouds_114 (by decide) ?_
      first | refine wh_drop (i := 7) (ls2 := [_, _, _, _, _, _, _, _]) rfl ?_ | skip
      first
        | (refine wh_eq (ih _ hG2) ?_ rfl rfl; rw [es, if_neg (nle_lt.mpr c_72)]; done)
        | (refine wh_eq (ih _ hG2) ?_ rfl rfl; rw [es, if_pos (nlt_le.mp c_72)]; done)
    · refine wh_iload (pc := 75) d_Lm_clouds_75 rfl ?_
      refine cs_Lm_196_d (pc := 77) rfl d_Lm_clouds_77 ⟨⟨by decide, by decide⟩, rfl, rfl⟩ ((show SD l D base M_Ji_bitCount [.int (nI i)] _ (some (.int (nI (bn i)))) _ by rw [← hbn]; exact s_bitC)) (Nat.le_of_ble_eq_true rfl) ?_
      refine wh_istore (pc := 80) (ls2 := [_, _, _, _, _, _, _, _]) d_Lm_clouds_80 (by decide) rfl rfl ?_
      refine wh_iload (pc := 82) d_Lm_clouds_82 rfl ?_
      refine wh_iload_n (pc := 84) d_Lm_clouds_84 rfl rfl ?_
      refine wh_iload (pc := 85) d_Lm_clouds_85 rfl ?_
      refine cs_Lm_172_d (pc := 87) rfl d_Lm_clouds_87 ⟨⟨by decide, by decide⟩, rfl, rfl⟩ (c_power (by omega)) (Nat.le_of_ble_eq_true rfl) ?_
      refine wh_bipush (pc := 90) (v := 10) d_Lm_clouds_90 (by decide) ?_
      refine wh_iload_n (pc := 92) d_Lm_clouds_92 rfl rfl ?_
      refine wh_isub (pc := 93) d_Lm_clouds_93 ?_
      refine wh_aload_n (pc := 94) d_Lm_clouds_94 rfl rfl ?_
      refine gf_Lm_20 (pc := 95) rfl d_Lm_clouds_95 ?_
      refine gf_Lm_76 (pc := 98) (Or.inl rfl) rfl d_Lm_clouds_98 ?_
      refine wh_iload (pc := 101) d_Lm_clouds_101 rfl ?_
      refine wh_isub (pc := 103) d_Lm_clouds_103 ?_
      rw [h26, pk_sub hbl, show (10 : Int32) - nI x = nI (10 - x) from pk_sub (a := 10) hx]
      refine cs_Lm_172_d (pc := 104) rfl d_Lm_clouds_104 ⟨⟨by decide, by decide⟩, rfl, rfl⟩ (c_power (by omega)) (Nat.le_of_ble_eq_true rfl) ?_
      refine wh_imul (pc := 107) d_Lm_clouds_107 ?_
      refine wh_iadd (pc := 108) d_Lm_clouds_108 ?_
      refine wh_istore (pc := 109) (ls2 := [_, _, _, _, _, _, _, _]) d_Lm_clouds_109 (by decide) rfl rfl ?_
      refine wh_iinc (pc := 111) (ls2 := [_, _, _, _, _, _, _, _]) d_Lm_clouds_111 rfl (nI_inc _) (by decide) rfl rfl ?_
      refine wh_goto (pc := 114) (tgt := 37) d_Lm_clouds_114 (by decide) ?_
      first | refine wh_drop (i := 7) (ls2 := [_, _, _, _, _, _, _, _]) rfl ?_ | skip
      first
        | (refine wh_eq (ih _ hG2) ?_ rfl rfl; rw [es, if_neg (nle_lt.mpr c_72)]; done)
        | (refine wh_eq (ih _ hG2) ?_ rfl rfl; rw [es, if_pos (nlt_le.mp c_72)]; done)
theorem r_clouds {l : Launch} {D : va_G} {base : Nat} {h : Hp} (hr : Rel h) (t w b : Int32) : SI l D base M_Md_clouds [.ref 42, .int t, .int w, .int b] h (fun g x => FM h g ∧ x = cloF (laneS h 2) t w b) := by
  refine SP.of [some (.ref 42), some (.int t), some (.int w), some (.int b), none, none, none, none] (by decide) rfl (Nat.le_of_ble_eq_true rfl) ?_
  obtain ⟨hSt, hF⟩ := hr.street
  have hw5 := hF.1.1
  have hm6 := hF.2.1.1
  have hF8 : WFS (pageS h 48) := by rw [← hSt]; exact hF
  have hP0 : pageS (sI h 42 0 0) 48 = pageS h 48 := fm_page fm_thr
  have hw := hr.w
  rw [hSt] at hw5 hm6 ⊢
  by_cases ht : t < 0 ∨ 99 < t
  · refine wh_aload_n (pc := 0) d_Md_clouds_0 rfl rfl ?_
    refine wh_iconst (pc := 1) (v := 0) d_Md_clouds_1 (by decide) ?_
    refine pf_Md_62 (pc := 2) rfl d_Md_clouds_2 ?_
    refine wh_iload_n (pc := 5) d_Md_clouds_5 rfl rfl ?_
    refine wh_i2l (pc := 6) d_Md_clouds_6 ?_
    refine wh_lconst (pc := 7) (v := 0) d_Md_clouds_7 (by decide) ?_
    refine wh_ldc2 (pc := 8) d_Md_clouds_8 kc_Md_183 ?_
    refine cs_Md_69_d (pc := 11) rfl d_Md_clouds_11 ⟨⟨by decide, by decide⟩, rfl, rfl⟩ (m_in) (Nat.le_of_ble_eq_true rfl) ?_
    refine wh_if_eq (pc := 14) (tgt := 29) d_Md_clouds_14 (by decide) (fun c_14 => ?_) (fun c_14 => absurd ((inL t 0 99 rfl rfl).mpr ht) c_14)
    refine wh_bipush (pc := 29) (v := (-2)) d_Md_clouds_29 (by decide) ?_
    refine wh_iret (pc := 31) d_Md_clouds_31 rfl ?_
    exact ⟨_, rfl, fm_thr, by unfold cloF; rw [if_pos ht]⟩
  have hts : ¬ inF t.toInt64 0 99 = 0 := fun z => ht ((inL t 0 99 rfl rfl).mp z)
  by_cases hw9 : w < 0 ∨ 10 < w
  · refine wh_aload_n (pc := 0) d_Md_clouds_0 rfl rfl ?_
    refine wh_iconst (pc := 1) (v := 0) d_Md_clouds_1 (by decide) ?_
    refine pf_Md_62 (pc := 2) rfl d_Md_clouds_2 ?_
    refine wh_iload_n (pc := 5) d_Md_clouds_5 rfl rfl ?_
    refine wh_i2l (pc := 6) d_Md_clouds_6 ?_
    refine wh_lconst (pc := 7) (v := 0) d_Md_clouds_7 (by decide) ?_
    refine wh_ldc2 (pc := 8) d_Md_clouds_8 kc_Md_183 ?_
    refine cs_Md_69_d (pc := 11) rfl d_Md_clouds_11 ⟨⟨by decide, by decide⟩, rfl, rfl⟩ (m_in) (Nat.le_of_ble_eq_true rfl) ?_
    refine wh_if_eq (pc := 14) (tgt := 29) d_Md_clouds_14 (by decide) (fun c_14 => absurd c_14 hts) (fun c_14 => ?_)
    refine wh_iload_n (pc := 17) d_Md_clouds_17 rfl rfl ?_
    refine wh_i2l (pc := 18) d_Md_clouds_18 ?_
    refine wh_lconst (pc := 19) (v := 0) d_Md_clouds_19 (by decide) ?_
    refine wh_ldc2 (pc := 20) d_Md_clouds_20 kc_Md_241 ?_
    refine cs_Md_69_d (pc := 23) rfl d_Md_clouds_23 ⟨⟨by decide, by decide⟩, rfl, rfl⟩ (m_in) (Nat.le_of_ble_eq_true rfl) ?_
    refine wh_if_ne (pc := 26) (tgt := 32) d_Md_clouds_26 (by decide) (fun c_26 => absurd ((inL w 0 10 rfl rfl).mpr hw9) c_26) (fun c_26 => ?_)
    refine wh_bipush (pc := 29) (v := (-2)) d_Md_clouds_29 (by decide) ?_
    refine wh_iret (pc := 31) d_Md_clouds_31 rfl ?_
    exact ⟨_, rfl, fm_thr, by unfold cloF; rw [if_neg ht, if_pos hw9]⟩
  have hws : ¬ inF w.toInt64 0 10 = 0 := fun z => hw9 ((inL w 0 10 rfl rfl).mp z)
  obtain ⟨x, hx, rfl⟩ := x10 hw9
  have hcx := cl_nI (show x < 2 ^ 31 by omega)
  have h2n := two_le5 hw5
  have h10 := ten_le5 hw5
  have hp10 : 0 < 10 ^ nW (pageS h 48) := Nat.pos_of_ne_zero (by simp)
  obtain ⟨ca, cb⟩ := cd_abs (S := (pageS h 48)) (t := t) hx hw5
  refine wh_aload_n (pc := 0) d_Md_clouds_0 rfl rfl ?_
  refine wh_iconst (pc := 1) (v := 0) d_Md_clouds_1 (by decide) ?_
  refine pf_Md_62 (pc := 2) rfl d_Md_clouds_2 ?_
  refine wh_iload_n (pc := 5) d_Md_clouds_5 rfl rfl ?_
  refine wh_i2l (pc := 6) d_Md_clouds_6 ?_
  refine wh_lconst (pc := 7) (v := 0) d_Md_clouds_7 (by decide) ?_
  refine wh_ldc2 (pc := 8) d_Md_clouds_8 kc_Md_183 ?_
  refine cs_Md_69_d (pc := 11) rfl d_Md_clouds_11 ⟨⟨by decide, by decide⟩, rfl, rfl⟩ (m_in) (Nat.le_of_ble_eq_true rfl) ?_
  refine wh_if_eq (pc := 14) (tgt := 29) d_Md_clouds_14 (by decide) (fun c_14 => absurd c_14 hts) (fun c_14 => ?_)
  refine wh_iload_n (pc := 17) d_Md_clouds_17 rfl rfl ?_
  refine wh_i2l (pc := 18) d_Md_clouds_18 ?_
  refine wh_lconst (pc := 19) (v := 0) d_Md_clouds_19 (by decide) ?_
  refine wh_ldc2 (pc := 20) d_Md_clouds_20 kc_Md_241 ?_
  refine cs_Md_69_d (pc := 23) rfl d_Md_clouds_23 ⟨⟨by decide, by decide⟩, rfl, rfl⟩ (m_in) (Nat.le_of_ble_eq_true rfl) ?_
  refine wh_if_ne (pc := 26) (tgt := 32) d_Md_clouds_26 (by decide) (fun c_26 => ?_) (fun c_26 => absurd c_26 hws)
  refine wh_iconst (pc := 32) (v := 0) d_Md_clouds_32 (by decide) ?_
  refine wh_istore (pc := 33) (ls2 := [_, _, _, _, _, _, _, _]) d_Md_clouds_33 (by decide) rfl rfl ?_
  refine wh_iconst (pc := 35) (v := 0) d_Md_clouds_35 (by decide) ?_
  refine wh_istore (pc := 36) (ls2 := [_, _, _, _, _, _, _, _]) d_Md_clouds_36 (by decide) rfl rfl ?_
  refine wh_loopR (2 ^ nW (pageS h 48)) (fun i => [some (.ref 42), some (.int t), some (.int (nI x)), some (.int b), some (.int (cdN (pageS h 48) t x i)), some (.int (nI i)), none, none]) (fun i g => FM h g) ?_ ?_ 0 _ (Nat.zero_le _) fm_thr
  · intro g hI
    have h4 : gI g 42 4 = nI (nW (pageS h 48)) := (hI.2 42 4 (by unfold scM; omega)).trans (pf_w hF8)
    refine wh_iload (pc := 38) d_Md_clouds_38 rfl ?_
    refine wh_iconst (pc := 40) (v := 1) d_Md_clouds_40 (by decide) ?_
    refine wh_aload_n (pc := 41) d_Md_clouds_41 rfl rfl ?_
    refine gf_Md_66 (pc := 42) rfl d_Md_clouds_42 ?_
    refine wh_ishl (pc := 45) d_Md_clouds_45 ?_
    refine wh_icmp_ge (pc := 46) (tgt := 189) d_Md_clouds_46 (by decide) (fun c_46 => ?_) (fun c_46 => absurd (by rw [h4, shl_n _ (by omega)]; exact nI_le (Nat.le_refl _) (by omega)) c_46)
    refine wh_iload (pc := 189) d_Md_clouds_189 rfl ?_
    refine wh_bipush (pc := 191) (v := 10) d_Md_clouds_191 (by decide) ?_
    refine wh_aload_n (pc := 193) d_Md_clouds_193 rfl rfl ?_
    refine gf_Md_66 (pc := 194) rfl d_Md_clouds_194 ?_
    rw [h4]
    refine cs_Md_195_d (pc := 197) rfl d_Md_clouds_197 ⟨⟨by decide, by decide⟩, rfl, rfl⟩ (m_power (by omega)) (Nat.le_of_ble_eq_true rfl) ?_
    rw [pow_10]
    refine wh_iload_n (pc := 200) d_Md_clouds_200 rfl rfl ?_
    refine cs_Md_224_d (pc := 201) rfl d_Md_clouds_201 ⟨⟨by decide, by decide⟩, rfl, rfl⟩ (m_fraction ca cb hp10 (by omega)) (Nat.le_of_ble_eq_true rfl) ?_
    refine wh_iret (pc := 204) d_Md_clouds_204 rfl ?_
    exact ⟨_, rfl, hI, by unfold cloF; rw [if_neg ht, if_neg hw9, hcx]⟩
  · intro i g hi hI ih
    have hgS : pageS g 48 = (pageS h 48) := fm_page hI
    obtain ⟨hbn, hbl⟩ := bit_in (nW (pageS h 48)) (by omega) i hi
    have hbl : bn i ≤ nW (pageS h 48) := hbl
    have hbn : bitC (nI i) = nI (bn i) := hbn
    have hB : pageS (bgH g) 49 = (pageS h 48) := by rw [page_bg (by rw [hgS]; exact hw5) (by rw [hgS]; exact hm6), hgS]
    have h4 : gI g 42 4 = nI (nW (pageS h 48)) := (hI.2 42 4 (by unfold scM; omega)).trans (pf_w hF8)
    have h4q : ∀ q, gI (fillA (bgH g) 49 (fun k => clF (nI i) ((pageS h 48) 1 k) k) q) 42 4 = nI (nW (pageS h 48)) := fun q => by rw [gI_fillN (by decide)]; exact (gI_fillN (by decide)).trans h4
    have hT : pageS (fillA (bgH g) 49 (fun k => clF (nI i) ((pageS h 48) 1 k) k) (nW (pageS h 48))) 49 = clS (pageS h 48) (nI i) := by
      rw [show nW (pageS h 48) = nW (pageS (bgH g) 49) by rw [hB], page_row (by rw [hB]; exact hw5), hB]
      rfl
    have hTF := cl_wf hF8 (nI i)
    have hL : FM h (layH (fillA (bgH g) 49 (fun k => clF (nI i) ((pageS h 48) 1 k) k) (nW (pageS h 48))) 49) := ((hI.tr fm_bg).tr (show FM (bgH g) (fillA (bgH g) 49 (fun k => clF (nI i) ((pageS h 48) 1 k) k) (nW (pageS h 48))) from ⟨rfl, fun c j q => gI_fillN (fun z => q (by unfold scM; omega))⟩)).tr fm_lay
    have h4L : gI (layH (fillA (bgH g) 49 (fun k => clF (nI i) ((pageS h 48) 1 k) k) (nW (pageS h 48))) 49) 42 4 = nI (nW (pageS h 48)) := (hL.2 42 4 (by unfold scM; omega)).trans (pf_w hF8)
    have es : cdN (pageS h 48) t x (i + 1) = if allF (clS (pageS h 48) (nI i)) ≤ t then cdN (pageS h 48) t x i + powN (nI x) (bn i) * powN (nI (10 - x)) (nW (pageS h 48) - bn i) else cdN (pageS h 48) t x i := rfl
    refine wh_iload (pc := 38) d_Md_clouds_38 rfl ?_
    refine wh_iconst (pc := 40) (v := 1) d_Md_clouds_40 (by decide) ?_
    refine wh_aload_n (pc := 41) d_Md_clouds_41 rfl rfl ?_
    refine gf_Md_66 (pc := 42) rfl d_Md_clouds_42 ?_
    refine wh_ishl (pc := 45) d_Md_clouds_45 ?_
    refine wh_icmp_ge (pc := 46) (tgt := 189) d_Md_clouds_46 (by decide) (fun c_46 => absurd c_46 (by rw [h4, shl_n _ (by omega)]; exact nI_ge hi (by omega))) (fun c_46 => ?_)
    refine wh_aload_n (pc := 49) d_Md_clouds_49 rfl rfl ?_
    refine cv_Md_180_d (pc := 50) rfl d_Md_clouds_50 ⟨⟨by decide, by decide⟩, rfl, rfl⟩ ((show SD l D base M_Md_begin [.ref 42] g none (bgH g) from m_begin)) (Nat.le_of_ble_eq_true rfl) ?_
    refine wh_iconst (pc := 53) (v := 0) d_Md_clouds_53 (by decide) ?_
    refine wh_istore (pc := 54) (ls2 := [_, _, _, _, _, _, _, _]) d_Md_clouds_54 (by decide) rfl rfl ?_
    refine wh_eq (wh_loop (nW (pageS h 48)) (fun q => [some (.ref 42), some (.int t), some (.int (nI x)), some (.int b), some (.int (cdN (pageS h 48) t x i)), some (.int (nI i)), some (.int (nI q)), none]) (fun q => (fillA (bgH g) 49 (fun k => clF (nI i) ((pageS h 48) 1 k) k) q)) (fun _ => True) ?_ ?_ 0 (Nat.zero_le _) trivial) rfl rfl (fill_0 _ _ _).symm
    · intro _
      refine wh_iload (pc := 56) d_Md_clouds_56 rfl ?_
      refine wh_aload_n (pc := 58) d_Md_clouds_58 rfl rfl ?_
      refine gf_Md_66 (pc := 59) rfl d_Md_clouds_59 ?_
      refine wh_icmp_ge (pc := 62) (tgt := 134) d_Md_clouds_62 (by decide) (fun c_62 => ?_) (fun c_62 => absurd (by rw [h4q]; exact nI_le (Nat.le_refl _) (by omega)) c_62)
      refine wh_iload (pc := 134) d_Md_clouds_134 rfl ?_
      refine cs_Md_134_d (pc := 136) rfl d_Md_clouds_136 ⟨⟨by decide, by decide⟩, rfl, rfl⟩ ((show SD l D base M_Md_many [.int (nI i)] _ (some (.int (nI (bn i)))) _ by rw [← hbn, ← many_bit i (by omega)]; exact m_many)) (Nat.le_of_ble_eq_true rfl) ?_
      refine wh_istore (pc := 139) (ls2 := [_, _, _, _, _, _, _, _]) d_Md_clouds_139 (by decide) rfl rfl ?_
      refine wh_iload (pc := 141) d_Md_clouds_141 rfl ?_
      refine wh_aload_n (pc := 143) d_Md_clouds_143 rfl rfl ?_
      refine wh_aload_n (pc := 144) d_Md_clouds_144 rfl rfl ?_
      refine gf_Md_28 (pc := 145) rfl d_Md_clouds_145 ?_
      refine cv_Md_148_d (pc := 148) rfl d_Md_clouds_148 ⟨⟨by decide, by decide⟩, rfl, rfl⟩ (m_lay (Or.inr rfl) hT hTF) (Nat.le_of_ble_eq_true rfl) ?_
      refine wh_iload_n (pc := 151) d_Md_clouds_151 rfl rfl ?_
      refine wh_icmp_gt (pc := 152) (tgt := 179) d_Md_clouds_152 (by decide) (fun c_152 => ?_) (fun c_152 => ?_)
      · refine wh_iconst (pc := 179) (v := 0) d_Md_clouds_179 (by decide) ?_
        refine wh_iadd (pc := 180) d_Md_clouds_180 ?_
        refine wh_istore (pc := 181) (ls2 := [_, _, _, _, _, _, _, _]) d_Md_clouds_181 (by decide) rfl rfl ?_
        refine wh_iinc (pc := 183) (ls2 := [_, _, _, _, _, _, _, _]) d_Md_clouds_183 rfl (nI_inc _) (by decide) rfl rfl ?_
        refine wh_goto (pc := 186) (tgt := 38) d_Md_clouds_186 (by decide) ?_
        refine wh_drop (i := 6) (ls2 := [_, _, _, _, _, _, _, _]) rfl ?_
        first
          | (refine wh_eq (ih _ hL) ?_ rfl rfl; rw [es, if_neg (nle_lt.mpr c_152), Int32.add_zero]; done)
          | (refine wh_eq (ih _ hL) ?_ rfl rfl; rw [es, if_pos (nlt_le.mp c_152)]; done)
      · refine wh_iload_n (pc := 155) d_Md_clouds_155 rfl rfl ?_
        refine wh_iload (pc := 156) d_Md_clouds_156 rfl ?_
        refine cs_Md_195_d (pc := 158) rfl d_Md_clouds_158 ⟨⟨by decide, by decide⟩, rfl, rfl⟩ (m_power (by omega)) (Nat.le_of_ble_eq_true rfl) ?_
        refine wh_bipush (pc := 161) (v := 10) d_Md_clouds_161 (by decide) ?_
        refine wh_iload_n (pc := 163) d_Md_clouds_163 rfl rfl ?_
        refine wh_isub (pc := 164) d_Md_clouds_164 ?_
        refine wh_aload_n (pc := 165) d_Md_clouds_165 rfl rfl ?_
        refine gf_Md_66 (pc := 166) rfl d_Md_clouds_166 ?_
        refine wh_iload (pc := 169) d_Md_clouds_169 rfl ?_
        refine wh_isub (pc := 171) d_Md_clouds_171 ?_
        rw [h4L, pk_sub hbl, show (10 : Int32) - nI x = nI (10 - x) from pk_sub (a := 10) hx]
        refine cs_Md_195_d (pc := 172) rfl d_Md_clouds_172 ⟨⟨by decide, by decide⟩, rfl, rfl⟩ (m_power (by omega)) (Nat.le_of_ble_eq_true rfl) ?_
        refine wh_imul (pc := 175) d_Md_clouds_175 ?_
        refine wh_goto (pc := 176) (tgt := 180) d_Md_clouds_176 (by decide) ?_
        refine wh_iadd (pc := 180) d_Md_clouds_180 ?_
        refine wh_istore (pc := 181) (ls2 := [_, _, _, _, _, _, _, _]) d_Md_clouds_181 (by decide) rfl rfl ?_
        refine wh_iinc (pc := 183) (ls2 := [_, _, _, _, _, _, _, _]) d_Md_clouds_183 rfl (nI_inc _) (by decide) rfl rfl ?_
        refine wh_goto (pc := 186) (tgt := 38) d_Md_clouds_186 (by decide) ?_
        refine wh_drop (i := 6) (ls2 := [_, _, _, _, _, _, _, _]) rfl ?_
        first
          | (refine wh_eq (ih _ hL) ?_ rfl rfl; rw [es, if_neg (nle_lt.mpr c_152), Int32.add_zero]; done)
          | (refine wh_eq (ih _ hL) ?_ rfl rfl; rw [es, if_pos (nlt_le.mp c_152)]; done)
    · intro q hq _ ih2
      have hcq := cl_nI (show q < 2 ^ 31 by omega)
      have eq1 : gI (fillA (bgH g) 49 (fun k => clF (nI i) ((pageS h 48) 1 k) k) q) 49 (0 + nI q).toNatClampNeg = (pageS h 48) 1 q := by rw [a0, hcq, gI_fillO (Nat.le_refl _), ← hB]; exact pa1 (by rw [hB]; exact hq)
      obtain ⟨p, hp, hpe⟩ := (hF8.2.2.1 q hq).2
      have hmx := mx_2 p (by omega)
      rw [← hpe] at hmx
      refine wh_iload (pc := 56) d_Md_clouds_56 rfl ?_
      refine wh_aload_n (pc := 58) d_Md_clouds_58 rfl rfl ?_
      refine gf_Md_66 (pc := 59) rfl d_Md_clouds_59 ?_
      refine wh_icmp_ge (pc := 62) (tgt := 134) d_Md_clouds_62 (by decide) (fun c_62 => absurd c_62 (by rw [h4q]; exact nI_ge hq (by omega))) (fun c_62 => ?_)
      refine wh_aload_n (pc := 65) d_Md_clouds_65 rfl rfl ?_
      refine gf_Md_28 (pc := 66) rfl d_Md_clouds_66 ?_
      refine wh_iconst (pc := 69) (v := 0) d_Md_clouds_69 (by decide) ?_
      refine wh_iload (pc := 70) d_Md_clouds_70 rfl ?_
      refine wh_iadd (pc := 72) d_Md_clouds_72 ?_
      refine wh_iald (pc := 73) d_Md_clouds_73 rfl (by rw [a0]; exact in_nI (show q < 24 by omega) (by omega)) ?_
      refine wh_iconst (pc := 74) (v := 2) d_Md_clouds_74 (by decide) ?_
      rw [eq1]
      refine wh_icmp_ge (pc := 75) (tgt := 82) d_Md_clouds_75 (by decide) (fun c_75 => ?_) (fun c_75 => ?_)
      · refine wh_aload_n (pc := 82) d_Md_clouds_82 rfl rfl ?_
        refine gf_Md_28 (pc := 83) rfl d_Md_clouds_83 ?_
        refine wh_iconst (pc := 86) (v := 0) d_Md_clouds_86 (by decide) ?_
        refine wh_iload (pc := 87) d_Md_clouds_87 rfl ?_
        refine wh_iadd (pc := 89) d_Md_clouds_89 ?_
        refine wh_iald (pc := 90) d_Md_clouds_90 rfl (by rw [a0]; exact in_nI (show q < 24 by omega) (by omega)) ?_
        refine wh_iconst (pc := 91) (v := 2) d_Md_clouds_91 (by decide) ?_
        rw [eq1]
        refine wh_isub (pc := 92) d_Md_clouds_92 ?_
        refine wh_istore (pc := 93) (ls2 := [_, _, _, _, _, _, _, _]) d_Md_clouds_93 (by decide) rfl rfl ?_
        refine wh_aload_n (pc := 95) d_Md_clouds_95 rfl rfl ?_
        refine gf_Md_28 (pc := 96) rfl d_Md_clouds_96 ?_
        refine wh_iconst (pc := 99) (v := 0) d_Md_clouds_99 (by decide) ?_
        refine wh_iload (pc := 100) d_Md_clouds_100 rfl ?_
        refine wh_iadd (pc := 102) d_Md_clouds_102 ?_
        refine wh_iload (pc := 103) d_Md_clouds_103 rfl ?_
        refine wh_iload (pc := 105) d_Md_clouds_105 rfl ?_
        refine cs_Md_130_d (pc := 107) rfl d_Md_clouds_107 ⟨⟨by decide, by decide⟩, rfl, rfl⟩ (m_has) (Nat.le_of_ble_eq_true rfl) ?_
        refine wh_if_eq (pc := 110) (tgt := 118) d_Md_clouds_110 (by decide) (fun c_110 => ?_) (fun c_110 => ?_)
        · refine wh_aload_n (pc := 118) d_Md_clouds_118 rfl rfl ?_
          refine gf_Md_28 (pc := 119) rfl d_Md_clouds_119 ?_
          refine wh_iconst (pc := 122) (v := 0) d_Md_clouds_122 (by decide) ?_
          refine wh_iload (pc := 123) d_Md_clouds_123 rfl ?_
          refine wh_iadd (pc := 125) d_Md_clouds_125 ?_
          refine wh_iald (pc := 126) d_Md_clouds_126 rfl (by rw [a0]; exact in_nI (show q < 24 by omega) (by omega)) ?_
          try rw [eq1]
          refine wh_iast (pc := 127) d_Md_clouds_127 rfl (by rw [a0]; exact in_nI (show q < 24 by omega) (by omega)) ?_
          refine wh_iinc (pc := 128) (ls2 := [_, _, _, _, _, _, _, _]) d_Md_clouds_128 rfl (nI_inc _) (by decide) rfl rfl ?_
          refine wh_goto (pc := 131) (tgt := 56) d_Md_clouds_131 (by decide) ?_
          refine wh_drop (i := 7) (ls2 := [_, _, _, _, _, _, _, _]) rfl ?_
          rw [a0, hcq]
          rw [t01] at c_110
          refine wh_eq (ih2 trivial) rfl rfl (fill_s _ _ _ _ ?_)
          unfold clF
          first
            | (rw [c_110]; rfl)
            | (rw [show hasB (nI i) q = true by simpa using c_110, hmx.1, ← hmx.2, if_pos (nle_lt.mp c_75)]; rfl)
            | (rw [show hasB (nI i) q = true by simpa using c_110, hmx.1, ← hmx.2, if_neg (nlt_le.mpr c_75)]; rfl)
        · refine wh_iload (pc := 113) d_Md_clouds_113 rfl ?_
          refine wh_goto (pc := 115) (tgt := 127) d_Md_clouds_115 (by decide) ?_
          try rw [eq1]
          refine wh_iast (pc := 127) d_Md_clouds_127 rfl (by rw [a0]; exact in_nI (show q < 24 by omega) (by omega)) ?_
          refine wh_iinc (pc := 128) (ls2 := [_, _, _, _, _, _, _, _]) d_Md_clouds_128 rfl (nI_inc _) (by decide) rfl rfl ?_
          refine wh_goto (pc := 131) (tgt := 56) d_Md_clouds_131 (by decide) ?_
          refine wh_drop (i := 7) (ls2 := [_, _, _, _, _, _, _, _]) rfl ?_
          rw [a0, hcq]
          rw [t01] at c_110
          refine wh_eq (ih2 trivial) rfl rfl (fill_s _ _ _ _ ?_)
          unfold clF
          first
            | (rw [c_110]; rfl)
            | (rw [show hasB (nI i) q = true by simpa using c_110, hmx.1, ← hmx.2, if_pos (nle_lt.mp c_75)]; rfl)
            | (rw [show hasB (nI i) q = true by simpa using c_110, hmx.1, ← hmx.2, if_neg (nlt_le.mpr c_75)]; rfl)
      · refine wh_iconst (pc := 78) (v := 0) d_Md_clouds_78 (by decide) ?_
        refine wh_goto (pc := 79) (tgt := 93) d_Md_clouds_79 (by decide) ?_
        refine wh_istore (pc := 93) (ls2 := [_, _, _, _, _, _, _, _]) d_Md_clouds_93 (by decide) rfl rfl ?_
        refine wh_aload_n (pc := 95) d_Md_clouds_95 rfl rfl ?_
        refine gf_Md_28 (pc := 96) rfl d_Md_clouds_96 ?_
        refine wh_iconst (pc := 99) (v := 0) d_Md_clouds_99 (by decide) ?_
        refine wh_iload (pc := 100) d_Md_clouds_100 rfl ?_
        refine wh_iadd (pc := 102) d_Md_clouds_102 ?_
        refine wh_iload (pc := 103) d_Md_clouds_103 rfl ?_
        refine wh_iload (pc := 105) d_Md_clouds_105 rfl ?_
        refine cs_Md_130_d (pc := 107) rfl d_Md_clouds_107 ⟨⟨by decide, by decide⟩, rfl, rfl⟩ (m_has) (Nat.le_of_ble_eq_true rfl) ?_
        refine wh_if_eq (pc := 110) (tgt := 118) d_Md_clouds_110 (by decide) (fun c_110 => ?_) (fun c_110 => ?_)
        · refine wh_aload_n (pc := 118) d_Md_clouds_118 rfl rfl ?_
          refine gf_Md_28 (pc := 119) rfl d_Md_clouds_119 ?_
          refine wh_iconst (pc := 122) (v := 0) d_Md_clouds_122 (by decide) ?_
          refine wh_iload (pc := 123) d_Md_clouds_123 rfl ?_
          refine wh_iadd (pc := 125) d_Md_clouds_125 ?_
          refine wh_iald (pc := 126) d_Md_clouds_126 rfl (by rw [a0]; exact in_nI (show q < 24 by omega) (by omega)) ?_
          try rw [eq1]
          refine wh_iast (pc := 127) d_Md_clouds_127 rfl (by rw [a0]; exact in_nI (show q < 24 by omega) (by omega)) ?_
          refine wh_iinc (pc := 128) (ls2 := [_, _, _, _, _, _, _, _]) d_Md_clouds_128 rfl (nI_inc _) (by decide) rfl rfl ?_
          refine wh_goto (pc := 131) (tgt := 56) d_Md_clouds_131 (by decide) ?_
          refine wh_drop (i := 7) (ls2 := [_, _, _, _, _, _, _, _]) rfl ?_
          rw [a0, hcq]
          rw [t01] at c_110
          refine wh_eq (ih2 trivial) rfl rfl (fill_s _ _ _ _ ?_)
          unfold clF
          first
            | (rw [c_110]; rfl)
            | (rw [show hasB (nI i) q = true by simpa using c_110, hmx.1, ← hmx.2, if_pos (nle_lt.mp c_75)]; rfl)
            | (rw [show hasB (nI i) q = true by simpa using c_110, hmx.1, ← hmx.2, if_neg (nlt_le.mpr c_75)]; rfl)
        · refine wh_iload (pc := 113) d_Md_clouds_113 rfl ?_
          refine wh_goto (pc := 115) (tgt := 127) d_Md_clouds_115 (by decide) ?_
          try rw [eq1]
          refine wh_iast (pc := 127) d_Md_clouds_127 rfl (by rw [a0]; exact in_nI (show q < 24 by omega) (by omega)) ?_
          refine wh_iinc (pc := 128) (ls2 := [_, _, _, _, _, _, _, _]) d_Md_clouds_128 rfl (nI_inc _) (by decide) rfl rfl ?_
          refine wh_goto (pc := 131) (tgt := 56) d_Md_clouds_131 (by decide) ?_
          refine wh_drop (i := 7) (ls2 := [_, _, _, _, _, _, _, _]) rfl ?_
          rw [a0, hcq]
          rw [t01] at c_110
          refine wh_eq (ih2 trivial) rfl rfl (fill_s _ _ _ _ ?_)
          unfold clF
          first
            | (rw [c_110]; rfl)
            | (rw [show hasB (nI i) q = true by simpa using c_110, hmx.1, ← hmx.2, if_pos (nle_lt.mp c_75)]; rfl)
            | (rw [show hasB (nI i) q = true by simpa using c_110, hmx.1, ← hmx.2, if_neg (nlt_le.mpr c_75)]; rfl)
theorem x_clouds {l : Launch} {D : va_G} {base : Nat} (t w b : Int32) : CMD l D base M_Lm_clouds M_Md_clouds [.int t, .int w, .int b] := CMD.q (fun h => cloF (laneS h 2) t w b) (fun h h' f _ => by rw [fc_lane f]) (fun h hr => c_clouds hr t w b) (fun h hr => r_clouds hr t w b)

def euS : Nat → Nat → Nat → Prop
  | 0, _, q => q = 0
  | n + 1, p, q => q = 0 ∨ euS n q (p % q)
theorem eu_le : ∀ k p q, q < 2 ^ k → euS (2 * k) p q
  | 0, _, q, h => by
    show q = 0
    rw [Nat.pow_zero] at h; omega
  | k + 1, p, q, h => by
    show q = 0 ∨ (p % q = 0 ∨ euS (2 * k) (p % q) (q % (p % q)))
    by_cases h0 : q = 0
    · exact Or.inl h0
    refine Or.inr ?_
    by_cases h1 : p % q = 0
    · exact Or.inl h1
    refine Or.inr (eu_le k _ _ ?_)
    have hr : p % q < q := Nat.mod_lt _ (by omega)
    have h2 : q % (p % q) < p % q := Nat.mod_lt _ (by omega)
    rw [Nat.pow_succ] at h
    generalize p % q = r at *
    by_cases c : 2 * r ≤ q
    · omega
    · have : q % r = q - r := by rw [Nat.mod_eq_sub_mod (by omega), Nat.mod_eq_of_lt (by omega)]
      omega
def frF (up : Int32) (p q : Nat) (b : Int32) : Int32 := if b = 0 then nI q / nI (Nat.gcd p q) else up / nI (Nat.gcd p q)
theorem gcd_st (p q : Nat) : Nat.gcd q (p % q) = Nat.gcd p q := by rw [Nat.gcd_comm p q, Nat.gcd_rec q p, Nat.gcd_comm]
theorem abs_nI {q : Nat} (h : q < 2 ^ 31) : absI (nI q) = nI q := by unfold absI; rw [if_pos (nI_pos' h)]
theorem c_gcdL {l : Launch} {D : va_G} {base : Nat} {h : Hp} {A B : Int32} {G : Nat} : ∀ (n : Nat) (i p q : Nat) (x : Option Value), i + n ≤ 64 → p < 2 ^ 30 → q < 2 ^ 30 → Nat.gcd p q = G → euS n p q → WH l D base M_Lm_commonDivisor 7 [some (.int A), some (.int B), some (.int (nI p)), some (.int (nI q)), some (.int (nI i)), x] [] h (fun h' r' => h' = h ∧ r' = some (.int (nI G))) := by
  intro n
  induction n with
  | zero =>
    intro i p q x hi hp hq hG he
    have he : q = 0 := he
    subst he
    rw [Nat.gcd_zero_right] at hG
    subst hG
    refine wh_iload (pc := 7) d_Lm_commonDivisor_7 rfl ?_
    refine wh_bipush (pc := 9) (v := 64) d_Lm_commonDivisor_9 (by decide) ?_
    refine wh_icmp_ge (pc := 11) (tgt := 34) d_Lm_commonDivisor_11 (by decide) (fun c_11 => ?_) (fun c_11 => ?_)
    · refine wh_iload_n (pc := 34) d_Lm_commonDivisor_34 rfl rfl ?_
      refine wh_iret (pc := 35) d_Lm_commonDivisor_35 rfl ?_
      exact ⟨rfl, rfl⟩
    · refine wh_iload_n (pc := 14) d_Lm_commonDivisor_14 rfl rfl ?_
      refine wh_if_eq (pc := 15) (tgt := 34) d_Lm_commonDivisor_15 (by decide) (fun c_15 => ?_) (fun c_15 => absurd rfl c_15)
      refine wh_iload_n (pc := 34) d_Lm_commonDivisor_34 rfl rfl ?_
      refine wh_iret (pc := 35) d_Lm_commonDivisor_35 rfl ?_
      exact ⟨rfl, rfl⟩
  | succ n IH =>
    intro i p q x hi hp hq hG he
    by_cases h0 : q = 0
    · subst h0
      rw [Nat.gcd_zero_right] at hG
      subst hG
      refine wh_iload (pc := 7) d_Lm_commonDivisor_7 rfl ?_
      refine wh_bipush (pc := 9) (v := 64) d_Lm_commonDivisor_9 (by decide) ?_
      refine wh_icmp_ge (pc := 11) (tgt := 34) d_Lm_commonDivisor_11 (by decide) (fun c_11 => absurd c_11 (nI_ge (show i < 64 by omega) (by decide))) (fun c_11 => ?_)
      refine wh_iload_n (pc := 14) d_Lm_commonDivisor_14 rfl rfl ?_
      refine wh_if_eq (pc := 15) (tgt := 34) d_Lm_commonDivisor_15 (by decide) (fun c_15 => ?_) (fun c_15 => absurd rfl c_15)
      refine wh_iload_n (pc := 34) d_Lm_commonDivisor_34 rfl rfl ?_
      refine wh_iret (pc := 35) d_Lm_commonDivisor_35 rfl ?_
      exact ⟨rfl, rfl⟩
    · have he : euS n q (p % q) := he.elim (fun z => absurd z h0) id
      have hm : p % q < q := Nat.mod_lt _ (by omega)
      refine wh_iload (pc := 7) d_Lm_commonDivisor_7 rfl ?_
      refine wh_bipush (pc := 9) (v := 64) d_Lm_commonDivisor_9 (by decide) ?_
      refine wh_icmp_ge (pc := 11) (tgt := 34) d_Lm_commonDivisor_11 (by decide) (fun c_11 => absurd c_11 (nI_ge (show i < 64 by omega) (by decide))) (fun c_11 => ?_)
      refine wh_iload_n (pc := 14) d_Lm_commonDivisor_14 rfl rfl ?_
      refine wh_if_eq (pc := 15) (tgt := 34) d_Lm_commonDivisor_15 (by decide) (fun c_15 => absurd c_15 (nI_ne0 (show 0 < q by omega) (by omega))) (fun c_15 => ?_)
      refine wh_iload_n (pc := 18) d_Lm_commonDivisor_18 rfl rfl ?_
      refine wh_iload_n (pc := 19) d_Lm_commonDivisor_19 rfl rfl ?_
      refine wh_irem (pc := 20) d_Lm_commonDivisor_20 (nI_ne0 (show 0 < q by omega) (by omega)) ?_
      rw [pk_rem (by omega) (by omega) (by omega)]
      refine wh_istore (pc := 21) (ls2 := [_, _, _, _, _, _]) d_Lm_commonDivisor_21 (by decide) rfl rfl ?_
      refine wh_iload_n (pc := 23) d_Lm_commonDivisor_23 rfl rfl ?_
      refine wh_istore_n (pc := 24) (ls2 := [_, _, _, _, _, _]) d_Lm_commonDivisor_24 rfl (by decide) rfl rfl ?_
      refine wh_iload (pc := 25) d_Lm_commonDivisor_25 rfl ?_
      refine wh_istore_n (pc := 27) (ls2 := [_, _, _, _, _, _]) d_Lm_commonDivisor_27 rfl (by decide) rfl rfl ?_
      refine wh_iinc (pc := 28) (ls2 := [_, _, _, _, _, _]) d_Lm_commonDivisor_28 rfl (nI_inc _) (by decide) rfl rfl ?_
      refine wh_goto (pc := 31) (tgt := 7) d_Lm_commonDivisor_31 (by decide) ?_
      exact IH (i + 1) q (p % q) _ (by omega) hq (by omega) (by rw [gcd_st]; exact hG) he
theorem m_gcdL {l : Launch} {D : va_G} {base : Nat} {h : Hp} {A B : Int32} {G : Nat} : ∀ (n : Nat) (p q : Nat) (x : Option Value), p < 2 ^ 30 → q < 2 ^ 30 → Nat.gcd p q = G → euS n p q → WH l D base M_Md_divisor 13 [some (.int A), some (.int B), some (.int (nI p)), some (.int (nI q)), x] [] h (fun h' r' => h' = h ∧ r' = some (.int (nI G))) := by
  intro n
  induction n with
  | zero =>
    intro p q x hp hq hG he
    have he : q = 0 := he
    subst he
    rw [Nat.gcd_zero_right] at hG
    subst hG
    refine wh_iload_n (pc := 13) d_Md_divisor_13 rfl rfl ?_
    refine wh_if_eq (pc := 14) (tgt := 30) d_Md_divisor_14 (by decide) (fun c_14 => ?_) (fun c_14 => absurd rfl c_14)
    refine wh_iload_n (pc := 30) d_Md_divisor_30 rfl rfl ?_
    refine wh_iret (pc := 31) d_Md_divisor_31 rfl ?_
    exact ⟨rfl, rfl⟩
  | succ n IH =>
    intro p q x hp hq hG he
    by_cases h0 : q = 0
    · subst h0
      rw [Nat.gcd_zero_right] at hG
      subst hG
      refine wh_iload_n (pc := 13) d_Md_divisor_13 rfl rfl ?_
      refine wh_if_eq (pc := 14) (tgt := 30) d_Md_divisor_14 (by decide) (fun c_14 => ?_) (fun c_14 => absurd rfl c_14)
      refine wh_iload_n (pc := 30) d_Md_divisor_30 rfl rfl ?_
      refine wh_iret (pc := 31) d_Md_divisor_31 rfl ?_
      exact ⟨rfl, rfl⟩
    · have he : euS n q (p % q) := he.elim (fun z => absurd z h0) id
      have hm : p % q < q := Nat.mod_lt _ (by omega)
      refine wh_iload_n (pc := 13) d_Md_divisor_13 rfl rfl ?_
      refine wh_if_eq (pc := 14) (tgt := 30) d_Md_divisor_14 (by decide) (fun c_14 => absurd c_14 (nI_ne0 (show 0 < q by omega) (by omega))) (fun c_14 => ?_)
      refine wh_iload_n (pc := 17) d_Md_divisor_17 rfl rfl ?_
      refine wh_iload_n (pc := 18) d_Md_divisor_18 rfl rfl ?_
      refine wh_irem (pc := 19) d_Md_divisor_19 (nI_ne0 (show 0 < q by omega) (by omega)) ?_
      rw [pk_rem (by omega) (by omega) (by omega)]
      refine wh_istore (pc := 20) (ls2 := [_, _, _, _, _]) d_Md_divisor_20 (by decide) rfl rfl ?_
      refine wh_iload_n (pc := 22) d_Md_divisor_22 rfl rfl ?_
      refine wh_istore_n (pc := 23) (ls2 := [_, _, _, _, _]) d_Md_divisor_23 rfl (by decide) rfl rfl ?_
      refine wh_iload (pc := 24) d_Md_divisor_24 rfl ?_
      refine wh_istore_n (pc := 26) (ls2 := [_, _, _, _, _]) d_Md_divisor_26 rfl (by decide) rfl rfl ?_
      refine wh_goto (pc := 27) (tgt := 13) d_Md_divisor_27 (by decide) ?_
      exact IH q (p % q) _ hq (by omega) (by rw [gcd_st]; exact hG) he
theorem c_gcd {l : Launch} {D : va_G} {base : Nat} {h : Hp} {p q : Nat} (hp3 : p < 2 ^ 30) (hq : q < 2 ^ 17) : SD l D base M_Lm_commonDivisor [.int (nI p), .int (nI q)] h (some (.int (nI (Nat.gcd p q)))) h := by
  refine SP.of [some (.int (nI p)), some (.int (nI q)), none, none, none, none] (by decide) rfl (Nat.le_of_ble_eq_true rfl) ?_
  refine wh_iload_n (pc := 0) d_Lm_commonDivisor_0 rfl rfl ?_
  refine wh_istore_n (pc := 1) (ls2 := [_, _, _, _, _, _]) d_Lm_commonDivisor_1 rfl (by decide) rfl rfl ?_
  refine wh_iload_n (pc := 2) d_Lm_commonDivisor_2 rfl rfl ?_
  refine wh_istore_n (pc := 3) (ls2 := [_, _, _, _, _, _]) d_Lm_commonDivisor_3 rfl (by decide) rfl rfl ?_
  refine wh_iconst (pc := 4) (v := 0) d_Lm_commonDivisor_4 (by decide) ?_
  refine wh_istore (pc := 5) (ls2 := [_, _, _, _, _, _]) d_Lm_commonDivisor_5 (by decide) rfl rfl ?_
  exact c_gcdL 34 0 p q none (by omega) hp3 (by omega) rfl (eu_le 17 p q hq)
theorem c_told {l : Launch} {D : va_G} {base : Nat} {h : Hp} {up b : Int32} {p q : Nat} (hp : absI up = nI p) (hp3 : p < 2 ^ 30) (hq0 : 0 < q) (hq : q < 2 ^ 17) : SD l D base M_Lm_told [.int up, .int (nI q), .int b] h (some (.int (frF up p q b))) h := by
  refine SP.of [some (.int up), some (.int (nI q)), some (.int b), none] (by decide) rfl (Nat.le_of_ble_eq_true rfl) ?_
  have hg : 0 < Nat.gcd p q := Nat.gcd_pos_of_pos_right _ hq0
  have hg2 : Nat.gcd p q ≤ q := Nat.gcd_le_right _ hq0
  have hgn : ¬ nI (Nat.gcd p q) = 0 := nI_ne0 hg (by omega)
  refine wh_iload_n (pc := 0) d_Lm_told_0 rfl rfl ?_
  refine wh_mabs (pc := 1) d_Lm_told_1 ml_Lm_258 ⟨by decide, Nat.le_of_ble_eq_true rfl⟩ ?_
  refine wh_iload_n (pc := 4) d_Lm_told_4 rfl rfl ?_
  refine wh_mabs (pc := 5) d_Lm_told_5 ml_Lm_258 ⟨by decide, Nat.le_of_ble_eq_true rfl⟩ ?_
  rw [hp, abs_nI (by omega)]
  refine cs_Lm_263_d (pc := 8) rfl d_Lm_told_8 ⟨⟨by decide, by decide⟩, rfl, rfl⟩ (c_gcd hp3 hq) (Nat.le_of_ble_eq_true rfl) ?_
  refine wh_istore_n (pc := 11) (ls2 := [_, _, _, _]) d_Lm_told_11 rfl (by decide) rfl rfl ?_
  refine wh_iload_n (pc := 12) d_Lm_told_12 rfl rfl ?_
  refine wh_iconst (pc := 13) (v := 1) d_Lm_told_13 (by decide) ?_
  refine wh_icmp_ge (pc := 14) (tgt := 27) d_Lm_told_14 (by decide) (fun c_14 => ?_) (fun c_14 => absurd (nI_le (a := 1) hg (by omega)) c_14)
  refine wh_iload_n (pc := 27) d_Lm_told_27 rfl rfl ?_
  refine wh_if_eq (pc := 28) (tgt := 37) d_Lm_told_28 (by decide) (fun c_28 => ?_) (fun c_28 => ?_)
  · refine wh_iload_n (pc := 37) d_Lm_told_37 rfl rfl ?_
    refine wh_iload_n (pc := 38) d_Lm_told_38 rfl rfl ?_
    refine wh_idiv (pc := 39) d_Lm_told_39 hgn ?_
    refine wh_iret (pc := 40) d_Lm_told_40 rfl ?_
    refine ⟨rfl, ?_⟩
    unfold frF
    first | (rw [if_pos c_28]; done) | (rw [if_neg c_28]; done)
  · refine wh_iload_n (pc := 31) d_Lm_told_31 rfl rfl ?_
    refine wh_iload_n (pc := 32) d_Lm_told_32 rfl rfl ?_
    refine wh_idiv (pc := 33) d_Lm_told_33 hgn ?_
    refine wh_goto (pc := 34) (tgt := 40) d_Lm_told_34 (by decide) ?_
    refine wh_iret (pc := 40) d_Lm_told_40 rfl ?_
    refine ⟨rfl, ?_⟩
    unfold frF
    first | (rw [if_pos c_28]; done) | (rw [if_neg c_28]; done)
theorem m_gcd {l : Launch} {D : va_G} {base : Nat} {h : Hp} {up : Int32} {p q : Nat} (hp : absI up = nI p) (hp3 : p < 2 ^ 30) (hq : q < 2 ^ 17) : SD l D base M_Md_divisor [.int up, .int (nI q)] h (some (.int (nI (Nat.gcd p q)))) h := by
  refine SP.of [some (.int up), some (.int (nI q)), none, none, none] (by decide) rfl (Nat.le_of_ble_eq_true rfl) ?_
  unfold absI at hp
  refine wh_iload_n (pc := 0) d_Md_divisor_0 rfl rfl ?_
  refine wh_if_ge (pc := 1) (tgt := 9) d_Md_divisor_1 (by decide) (fun c_1 => ?_) (fun c_1 => ?_)
  · refine wh_iload_n (pc := 9) d_Md_divisor_9 rfl rfl ?_
    refine wh_istore_n (pc := 10) (ls2 := [_, _, _, _, _]) d_Md_divisor_10 rfl (by decide) rfl rfl ?_
    refine wh_iload_n (pc := 11) d_Md_divisor_11 rfl rfl ?_
    refine wh_istore_n (pc := 12) (ls2 := [_, _, _, _, _]) d_Md_divisor_12 rfl (by decide) rfl rfl ?_
    first | rw [if_pos c_1] at hp | rw [if_neg c_1] at hp
    rw [hp]
    exact m_gcdL 34 p q none hp3 (by omega) rfl (eu_le 17 p q hq)
  · refine wh_iload_n (pc := 4) d_Md_divisor_4 rfl rfl ?_
    refine wh_ineg (pc := 5) d_Md_divisor_5 ?_
    refine wh_goto (pc := 6) (tgt := 10) d_Md_divisor_6 (by decide) ?_
    refine wh_istore_n (pc := 10) (ls2 := [_, _, _, _, _]) d_Md_divisor_10 rfl (by decide) rfl rfl ?_
    refine wh_iload_n (pc := 11) d_Md_divisor_11 rfl rfl ?_
    refine wh_istore_n (pc := 12) (ls2 := [_, _, _, _, _]) d_Md_divisor_12 rfl (by decide) rfl rfl ?_
    first | rw [if_pos c_1] at hp | rw [if_neg c_1] at hp
    rw [hp]
    exact m_gcdL 34 p q none hp3 (by omega) rfl (eu_le 17 p q hq)
theorem m_fraction {l : Launch} {D : va_G} {base : Nat} {h : Hp} {up b : Int32} {p q : Nat} (hp : absI up = nI p) (hp3 : p < 2 ^ 30) (hq0 : 0 < q) (hq : q < 2 ^ 17) : SD l D base M_Md_fraction [.int up, .int (nI q), .int b] h (some (.int (frF up p q b))) h := by
  refine SP.of [some (.int up), some (.int (nI q)), some (.int b), none] (by decide) rfl (Nat.le_of_ble_eq_true rfl) ?_
  have hg : 0 < Nat.gcd p q := Nat.gcd_pos_of_pos_right _ hq0
  have hg2 : Nat.gcd p q ≤ q := Nat.gcd_le_right _ hq0
  have hgn : ¬ nI (Nat.gcd p q) = 0 := nI_ne0 hg (by omega)
  refine wh_iload_n (pc := 0) d_Md_fraction_0 rfl rfl ?_
  refine wh_iload_n (pc := 1) d_Md_fraction_1 rfl rfl ?_
  refine cs_Md_218_d (pc := 2) rfl d_Md_fraction_2 ⟨⟨by decide, by decide⟩, rfl, rfl⟩ (m_gcd hp hp3 hq) (Nat.le_of_ble_eq_true rfl) ?_
  refine wh_istore_n (pc := 5) (ls2 := [_, _, _, _]) d_Md_fraction_5 rfl (by decide) rfl rfl ?_
  refine wh_iload_n (pc := 6) d_Md_fraction_6 rfl rfl ?_
  refine wh_if_eq (pc := 7) (tgt := 16) d_Md_fraction_7 (by decide) (fun c_7 => ?_) (fun c_7 => ?_)
  · refine wh_iload_n (pc := 16) d_Md_fraction_16 rfl rfl ?_
    refine wh_iload_n (pc := 17) d_Md_fraction_17 rfl rfl ?_
    refine wh_idiv (pc := 18) d_Md_fraction_18 hgn ?_
    refine wh_iret (pc := 19) d_Md_fraction_19 rfl ?_
    refine ⟨rfl, ?_⟩
    unfold frF
    first | (rw [if_pos c_7]; done) | (rw [if_neg c_7]; done)
  · refine wh_iload_n (pc := 10) d_Md_fraction_10 rfl rfl ?_
    refine wh_iload_n (pc := 11) d_Md_fraction_11 rfl rfl ?_
    refine wh_idiv (pc := 12) d_Md_fraction_12 hgn ?_
    refine wh_goto (pc := 13) (tgt := 19) d_Md_fraction_13 (by decide) ?_
    refine wh_iret (pc := 19) d_Md_fraction_19 rfl ?_
    refine ⟨rfl, ?_⟩
    unfold frF
    first | (rw [if_pos c_7]; done) | (rw [if_neg c_7]; done)
def rowS (S : St) (f : Nat → Int32) : St := fun r k => if r = 1 ∧ k < nW S then f k else S r k
theorem row_n {S : St} {f : Nat → Int32} {r k : Nat} (h : r ≠ 1) : rowS S f r k = S r k := if_neg (fun z => h z.1)
theorem nW_row (S : St) (f : Nat → Int32) : nW (rowS S f) = nW S := by unfold nW; rw [row_n (by decide)]
theorem nM_row (S : St) (f : Nat → Int32) : nM (rowS S f) = nM S := by unfold nM; rw [row_n (by decide)]
theorem wf_row {S : St} (hF : WFS S) {f : Nat → Int32} (hf : ∀ k, k < nW S → ∃ p, p ≤ 9 ∧ f k = nI p) : WFS (rowS S f) := by
  refine ⟨⟨by rw [nW_row]; exact hF.1.1, by rw [row_n (by decide), nW_row]; exact hF.1.2⟩, ⟨by rw [nM_row]; exact hF.2.1.1, by rw [row_n (by decide), nM_row]; exact hF.2.1.2⟩, fun k hk => ?_, fun j hj => ?_⟩
  · rw [nW_row] at hk
    rw [row_n (by decide)]
    refine ⟨(hF.2.2.1 k hk).1, ?_⟩
    unfold rowS
    rw [if_pos ⟨rfl, hk⟩]
    exact hf k hk
  · rw [nM_row] at hj
    rw [row_n (by decide)]
    exact hF.2.2.2 j hj
theorem row_congr {S : St} {f g : Nat → Int32} (e : ∀ k, k < nW S → f k = g k) : rowS S f = rowS S g := by
  funext r k
  unfold rowS
  by_cases c : r = 1 ∧ k < nW S
  · rw [if_pos c, if_pos c, e k c.2]
  · rw [if_neg c, if_neg c]
theorem lane_out {h G : Hp} {b r k : Nat} (e : ∀ c j, c ≠ b + 2 → gI G c j = gI h c j) (c : ¬ (r = 1 ∧ k < nW (laneS h b))) : laneS G b r k = laneS h b r k := by
  have hn : nW (laneS h b) = (gI h b 6).toNatClampNeg := rfl
  rw [hn] at c
  unfold laneS
  simp only [e b _ (show b ≠ b + 2 by omega), e (b + 1) _ (show b + 1 ≠ b + 2 by omega), e (b + 3) _ (show b + 3 ≠ b + 2 by omega), e (b + 5) _ (show b + 5 ≠ b + 2 by omega), e (b + 6) _ (show b + 6 ≠ b + 2 by omega)]
  split
  · rfl
  · rw [if_neg (fun q => c ⟨rfl, q⟩), if_neg (fun q => c ⟨rfl, q⟩)]
  · rfl
  · rfl
  · rfl
  · rfl
  · rfl
theorem page_out {h G : Hp} {r k : Nat} (e : ∀ c j, c ≠ 49 → gI G c j = gI h c j) (e2 : ∀ j, 5 ≤ j → gI G 49 j = gI h 49 j) (c : ¬ (r = 1 ∧ k < nW (pageS h 49))) : pageS G 49 r k = pageS h 49 r k := by
  have hn : nW (pageS h 49) = (gI h 42 4).toNatClampNeg := rfl
  rw [hn] at c
  unfold pageS
  simp only [e 42 _ (by decide), e 44 _ (by decide), e 45 _ (by decide), e2 (19 + k) (by omega), e2 (10 + k) (by omega), e2 16 (by decide), e2 17 (by decide)]
  split
  · rfl
  · rw [if_neg (fun q => c ⟨rfl, q⟩), if_neg (fun q => c ⟨rfl, q⟩)]
  · rfl
  · rfl
  · rfl
  · rfl
  · rfl
theorem lane_row {h : Hp} {b : Nat} {f : Nat → Int32} : laneS (fillA h (b + 2) f (nW (laneS h b))) b = rowS (laneS h b) f := by
  have e : ∀ c j, c ≠ b + 2 → gI (fillA h (b + 2) f (nW (laneS h b))) c j = gI h c j := fun c j hc => gI_fillN hc
  funext r k
  unfold rowS
  by_cases c : r = 1 ∧ k < nW (laneS h b)
  · rw [if_pos c, c.1]
    show (if k < (gI (fillA h (b + 2) f (nW (laneS h b))) b 6).toNatClampNeg then gI (fillA h (b + 2) f (nW (laneS h b))) (b + 2) k else 0) = _
    rw [e b 6 (by omega), if_pos (show k < (gI h b 6).toNatClampNeg from c.2), gI_fillY c.2]
  · rw [if_neg c]
    exact lane_out e c
theorem page_row {h : Hp} {f : Nat → Int32} (hw : nW (pageS h 49) ≤ 5) : pageS (fillA h 49 f (nW (pageS h 49))) 49 = rowS (pageS h 49) f := by
  have e : ∀ c j, c ≠ 49 → gI (fillA h 49 f (nW (pageS h 49))) c j = gI h c j := fun c j hc => gI_fillN hc
  have e2 : ∀ j, 5 ≤ j → gI (fillA h 49 f (nW (pageS h 49))) 49 j = gI h 49 j := fun j hj => gI_fillO (by omega)
  funext r k
  unfold rowS
  by_cases c : r = 1 ∧ k < nW (pageS h 49)
  · rw [if_pos c, c.1]
    show (if k < (gI (fillA h 49 f (nW (pageS h 49))) 42 4).toNatClampNeg then gI (fillA h 49 f (nW (pageS h 49))) 49 k else 0) = _
    rw [e 42 4 (by decide), if_pos (show k < (gI h 42 4).toNatClampNeg from c.2), gI_fillY c.2]
  · rw [if_neg c]
    exact page_out e e2 c

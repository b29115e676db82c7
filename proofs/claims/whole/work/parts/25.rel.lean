/-! the class's cells and the reference's hold the same -/
/-- a kept row of the class, a kept page of the reference -/
def SN (n m : Nat) (pl R G : Nat → Int32) : Prop :=
  (∀ k, k < n → R k = G k ∧ (∃ b, b ≤ 9 ∧ G k = nI b) ∧ R (11 + k) = G (5 + k) ∧ G (19 + k) = pl k) ∧ (∀ k, n ≤ k → k < 5 → G (5 + k) = 0) ∧ (∀ j, j < m → R (5 + j) = G (10 + j) ∧ ∃ q, q ≤ 8 ∧ G (10 + j) = nI q) ∧ R 16 = G 16 ∧ R 17 = G 17 ∧ R 18 = G 18
def nowR (h : Hp) (j : Nat) : Int32 := if j < 5 then gI h 4 j else if j < 11 then gI h 7 (j - 5) else if j < 16 then gI h 6 (j - 11) else gI h 2 (j - 8)
def plF (h : Hp) (k : Nat) : Int32 := gI h 48 (19 + k)
def R_st (h : Hp) (n m : Nat) : Prop := (n ≤ 5 ∧ gI h 2 6 = nI n ∧ gI h 42 4 = nI n) ∧ (m ≤ 6 ∧ gI h 2 7 = nI m ∧ gI h 42 6 = nI m) ∧ (∀ k, k < n → gI h 3 k = gI h 48 (19 + k) ∧ (∃ p, p ≤ 8 ∧ gI h 48 (19 + k) = nI p) ∧ gI h 5 k = gI h 44 k) ∧ (∀ j, j < m → gI h 8 j = gI h 45 j) ∧ SN n m (plF h) (nowR h) (gI h 48)
def Rows (h : Hp) : Prop := (∀ i, i < 14 → ∃ r, gR h 19 i = some r ∧ 20 ≤ r ∧ r ≤ 33) ∧ (∀ i j, i < 14 → j < 14 → gR h 19 i = gR h 19 j → i = j) ∧ gR h 34 0 = some 35 ∧ gR h 34 1 = some 36
def R_ac (h : Hp) (n m : Nat) : Prop := ∃ na, (na ≤ 14 ∧ gI h 0 6 = nI na ∧ gI h 42 17 = nI na) ∧ ∀ i, i < na → ∀ r, gR h 19 i = some r → SN n m (plF h) (gI h r) (fun j => gI h 50 (24 * i + j))
def R_sl (h : Hp) (n m : Nat) : Prop := ∀ s, s < 2 → gI h 37 s = gI h 52 s ∧ (¬ gI h 37 s = 0 → SN n m (plF h) (gI h (35 + s)) (fun j => gI h 51 (24 * s + j)))
def R_ct (h : Hp) : Prop := ∃ nc, (nc ≤ 6 ∧ gI h 0 12 = nI nc ∧ gI h 42 20 = nI nc) ∧ ∀ i, i < nc → gI h 38 i = gI h 53 i ∧ gI h 39 i = gI h 54 i ∧ gI h 40 i = gI h 55 i
def R_tx (h : Hp) : Prop := ∃ len, (len ≤ 56 ∧ gI h 0 1 = nI len ∧ gI h 42 2 = nI len) ∧ ∀ i, i < len → gI h 1 i = gI h 43 i
def Rel (h : Hp) : Prop := ∃ n m, R_st h n m ∧ Rows h ∧ R_ac h n m ∧ R_sl h n m ∧ R_ct h ∧ R_tx h ∧ gL h 0 14 = gL h 42 24
def AG (T : Nat → Nat → Prop) (h h' : Hp) : Prop := ∀ c j, T c j → gI h' c j = gI h c j
def T_st (c j : Nat) : Prop := (2 ≤ c ∧ c ≤ 8) ∨ (c = 42 ∧ (j = 4 ∨ j = 6)) ∨ c = 44 ∨ c = 45 ∨ c = 48
def T_ac (c j : Nat) : Prop := (c = 0 ∧ j = 6) ∨ (c = 42 ∧ j = 17) ∨ (20 ≤ c ∧ c ≤ 33) ∨ c = 50 ∨ (c = 48 ∧ 19 ≤ j)
def T_sl (c j : Nat) : Prop := c = 35 ∨ c = 36 ∨ c = 37 ∨ c = 51 ∨ c = 52 ∨ (c = 48 ∧ 19 ≤ j)
def T_ct (c j : Nat) : Prop := (c = 0 ∧ j = 12) ∨ (c = 42 ∧ j = 20) ∨ (38 ≤ c ∧ c ≤ 40) ∨ (53 ≤ c ∧ c ≤ 55)
def T_tx (c j : Nat) : Prop := (c = 0 ∧ j = 1) ∨ (c = 42 ∧ j = 2) ∨ c = 1 ∨ c = 43
theorem SN.to {n m : Nat} {pl R G pl' R' G' : Nat → Int32} (h : SN n m pl R G) (hR : ∀ j, j < 19 → R' j = R j) (hG : ∀ j, j < 24 → G' j = G j) (hp : ∀ k, k < n → pl' k = pl k) (hn : n ≤ 5) (hm : m ≤ 6) : SN n m pl' R' G' := by
  obtain ⟨h1, h2, h3, h4, h5, h6⟩ := h
  refine ⟨fun k hk => ?_, fun k hk h5 => ?_, fun j hj => ?_, ?_, ?_, ?_⟩
  · obtain ⟨q1, q2, q3, q4⟩ := h1 k hk
    rw [hR k (by omega), hG k (by omega), hR (11 + k) (by omega), hG (5 + k) (by omega), hG (19 + k) (by omega), hp k hk]
    exact ⟨q1, q2, q3, q4⟩
  · rw [hG _ (by omega)]; exact h2 k hk h5
  · rw [hR _ (by omega), hG _ (by omega)]; exact h3 j hj
  · rw [hR _ (by omega), hG _ (by omega)]; exact h4
  · rw [hR _ (by omega), hG _ (by omega)]; exact h5
  · rw [hR _ (by omega), hG _ (by omega)]; exact h6
theorem R_st.ag {h h' : Hp} {n m : Nat} (a : AG T_st h h') (r : R_st h n m) : R_st h' n m := by
  obtain ⟨⟨r1, r2, r3⟩, ⟨r4, r5, r6⟩, r7, r8, r9⟩ := r
  refine ⟨⟨r1, ?_, ?_⟩, ⟨r4, ?_, ?_⟩, fun k hk => ?_, fun j hj => ?_, ?_⟩
  · rw [a 2 6 (by simp [T_st])]; exact r2
  · rw [a 42 4 (by simp [T_st])]; exact r3
  · rw [a 2 7 (by simp [T_st])]; exact r5
  · rw [a 42 6 (by simp [T_st])]; exact r6
  · rw [a 3 k (by simp [T_st]), a 48 _ (by simp [T_st]), a 5 k (by simp [T_st]), a 44 k (by simp [T_st])]; exact r7 k hk
  · rw [a 8 j (by simp [T_st]), a 45 j (by simp [T_st])]; exact r8 j hj
  · refine r9.to (fun j _ => ?_) (fun j _ => a 48 j (by simp [T_st])) (fun k _ => a 48 _ (by simp [T_st])) r1 r4
    unfold nowR
    rw [a 4 j (by simp [T_st]), a 7 _ (by simp [T_st]), a 6 _ (by simp [T_st]), a 2 _ (by simp [T_st])]
theorem Rows.same {h h' : Hp} (e : h'.2 = h.2) (r : Rows h) : Rows h' := by
  have e2 : ∀ a k, gR h' a k = gR h a k := fun a k => by unfold gR; rw [e]
  unfold Rows
  simp only [e2]
  exact r
theorem R_ac.ag {h h' : Hp} {n m : Nat} (a : AG T_ac h h') (e : ∀ i, gR h' 19 i = gR h 19 i) (hR : Rows h) (hn : n ≤ 5) (hm : m ≤ 6) (r : R_ac h n m) : R_ac h' n m := by
  obtain ⟨na, ⟨r1, r2, r3⟩, r4⟩ := r
  refine ⟨na, ⟨r1, ?_, ?_⟩, fun i hi q hq => ?_⟩
  · rw [a 0 6 (by simp [T_ac])]; exact r2
  · rw [a 42 17 (by simp [T_ac])]; exact r3
  · rw [e] at hq
    obtain ⟨q', hq', b1, b2⟩ := hR.1 i (by omega)
    have e3 : q = q' := Option.some.inj (hq.symm.trans hq')
    subst e3
    exact (r4 i hi q hq).to (fun j _ => a q j (by simp [T_ac]; omega)) (fun j _ => a 50 _ (by simp [T_ac])) (fun k _ => a 48 _ (by simp [T_ac])) hn hm
theorem R_sl.ag {h h' : Hp} {n m : Nat} (a : AG T_sl h h') (hn : n ≤ 5) (hm : m ≤ 6) (r : R_sl h n m) : R_sl h' n m := by
  intro s hs
  obtain ⟨r1, r2⟩ := r s hs
  rw [a 37 s (by simp [T_sl]), a 52 s (by simp [T_sl])]
  refine ⟨r1, fun q => ?_⟩
  exact (r2 q).to (fun j _ => a _ j (by simp [T_sl]; omega)) (fun j _ => a 51 _ (by simp [T_sl])) (fun k _ => a 48 _ (by simp [T_sl])) hn hm
theorem R_ct.ag {h h' : Hp} (a : AG T_ct h h') (r : R_ct h) : R_ct h' := by
  obtain ⟨nc, ⟨r1, r2, r3⟩, r4⟩ := r
  refine ⟨nc, ⟨r1, ?_, ?_⟩, fun i hi => ?_⟩
  · rw [a 0 12 (by simp [T_ct])]; exact r2
  · rw [a 42 20 (by simp [T_ct])]; exact r3
  · rw [a 38 i (by simp [T_ct]), a 53 i (by simp [T_ct]), a 39 i (by simp [T_ct]), a 54 i (by simp [T_ct]), a 40 i (by simp [T_ct]), a 55 i (by simp [T_ct])]; exact r4 i hi
theorem R_tx.ag {h h' : Hp} (a : AG T_tx h h') (r : R_tx h) : R_tx h' := by
  obtain ⟨nc, ⟨r1, r2, r3⟩, r4⟩ := r
  refine ⟨nc, ⟨r1, ?_, ?_⟩, fun i hi => ?_⟩
  · rw [a 0 1 (by simp [T_tx])]; exact r2
  · rw [a 42 2 (by simp [T_tx])]; exact r3
  · rw [a 1 i (by simp [T_tx]), a 43 i (by simp [T_tx])]; exact r4 i hi
def T_all (c j : Nat) : Prop := T_st c j ∨ T_ac c j ∨ T_sl c j ∨ T_ct c j ∨ T_tx c j
theorem Rel.ag {h h' : Hp} (a : AG T_all h h') (e : h'.2 = h.2) (r : Rel h) : Rel h' := by
  obtain ⟨n, m, r1, r2, r3, r4, r5, r6, r7⟩ := r
  have e2 : ∀ i, gR h' 19 i = gR h 19 i := fun k => by unfold gR; rw [e]
  refine ⟨n, m, r1.ag (fun c j q => a c j (Or.inl q)), r2.same e, r3.ag (fun c j q => a c j (Or.inr (Or.inl q))) e2 r2 r1.1.1 r1.2.1.1, r4.ag (fun c j q => a c j (Or.inr (Or.inr (Or.inl q)))) r1.1.1 r1.2.1.1, r5.ag (fun c j q => a c j (Or.inr (Or.inr (Or.inr (Or.inl q))))), r6.ag (fun c j q => a c j (Or.inr (Or.inr (Or.inr (Or.inr q))))), ?_⟩
  unfold gL
  rw [e]
  exact r7
/-- what the class's questions may change -/
def scC (c : Nat) : Prop := c = 9 ∨ (10 ≤ c ∧ c ≤ 18) ∨ c = 41
def FC (h h' : Hp) : Prop := h'.2 = h.2 ∧ ∀ c j, ¬ scC c → gI h' c j = gI h c j
/-- what the reference's questions may change -/
def scM (c j : Nat) : Prop := c = 46 ∨ c = 47 ∨ c = 49 ∨ (56 ≤ c ∧ c ≤ 59) ∨ (c = 42 ∧ (j = 0 ∨ j = 3 ∨ j = 8 ∨ j = 9 ∨ j = 10 ∨ j = 12 ∨ (27 ≤ j ∧ j ≤ 32)))
def FM (h h' : Hp) : Prop := h'.2 = h.2 ∧ ∀ c j, ¬ scM c j → gI h' c j = gI h c j
theorem FC.rf (h : Hp) : FC h h := ⟨rfl, fun _ _ _ => rfl⟩
theorem FM.rf (h : Hp) : FM h h := ⟨rfl, fun _ _ _ => rfl⟩
theorem FC.tr {h h' h2 : Hp} (a : FC h h') (b : FC h' h2) : FC h h2 := ⟨b.1.trans a.1, fun c j q => (b.2 c j q).trans (a.2 c j q)⟩
theorem FM.tr {h h' h2 : Hp} (a : FM h h') (b : FM h' h2) : FM h h2 := ⟨b.1.trans a.1, fun c j q => (b.2 c j q).trans (a.2 c j q)⟩
theorem Rel.fc {h h' : Hp} (r : Rel h) (f : FC h h') : Rel h' := r.ag (fun c j q => f.2 c j (fun z => by unfold T_all T_st T_ac T_sl T_ct T_tx at q; unfold scC at z; omega)) f.1
theorem Rel.fm {h h' : Hp} (r : Rel h) (f : FM h h') : Rel h' := r.ag (fun c j q => f.2 c j (fun z => by unfold T_all T_st T_ac T_sl T_ct T_tx at q; unfold scM at z; omega)) f.1
theorem Rel.street {h : Hp} (r : Rel h) : laneS h 2 = pageS h 48 ∧ WFS (laneS h 2) := by
  obtain ⟨n, m, ⟨⟨a1, a2, a3⟩, ⟨b1, b2, b3⟩, c1, c2, s1, s2, s3, s4, s5, s6⟩, -⟩ := r
  have en : (gI h 2 6).toNatClampNeg = n := by rw [a2]; exact cl_nI (by omega)
  have em : (gI h 2 7).toNatClampNeg = m := by rw [b2]; exact cl_nI (by omega)
  have en' : (gI h 42 4).toNatClampNeg = n := by rw [a3]; exact cl_nI (by omega)
  have em' : (gI h 42 6).toNatClampNeg = m := by rw [b3]; exact cl_nI (by omega)
  have hW : nW (laneS h 2) = n := en
  have hM : nM (laneS h 2) = m := em
  have hb : ∀ k, k < n → gI h 4 k = gI h 48 k := fun k hk => by
    have := (s1 k hk).1
    unfold nowR at this
    rwa [if_pos (by omega)] at this
  have hs : ∀ j, j < m → gI h 7 j = gI h 48 (10 + j) := fun j hj => by
    have := (s3 j hj).1
    unfold nowR at this
    rwa [if_neg (by omega), if_pos (by omega), show 5 + j - 5 = j by omega] at this
  have hw : gI h 2 8 = gI h 48 16 := s4
  have hh : gI h 2 9 = gI h 48 17 := s5
  refine ⟨?_, ?_⟩
  · funext r k
    have e0 : (if k < n then gI h (2 + 1) k else 0) = (if k < n then gI h 48 (19 + k) else 0) := by
      by_cases q : k < n
      · rw [if_pos q, if_pos q]; exact (c1 k q).1
      · rw [if_neg q, if_neg q]
    have e1 : (if k < n then gI h (2 + 2) k else 0) = (if k < n then gI h 48 k else 0) := by
      by_cases q : k < n
      · rw [if_pos q, if_pos q]; exact hb k q
      · rw [if_neg q, if_neg q]
    have e2 : (if k < n then gI h (2 + 3) k else 0) = (if k < n then gI h 44 k else 0) := by
      by_cases q : k < n
      · rw [if_pos q, if_pos q]; exact (c1 k q).2.2
      · rw [if_neg q, if_neg q]
    have e3 : (if k < m then gI h (2 + 5) k else 0) = (if k < m then gI h 48 (10 + k) else 0) := by
      by_cases q : k < m
      · rw [if_pos q, if_pos q]; exact hs k q
      · rw [if_neg q, if_neg q]
    have e4 : (if k < m then gI h (2 + 6) k else 0) = (if k < m then gI h 45 k else 0) := by
      by_cases q : k < m
      · rw [if_pos q, if_pos q]; exact c2 k q
      · rw [if_neg q, if_neg q]
    unfold laneS pageS
    rw [en, em, en', em', hw, hh, a2, a3, b2, b3, e0, e1, e2, e3, e4]
    rfl
  · refine ⟨⟨by rw [hW]; exact a1, by rw [hW]; exact a2⟩, ⟨by rw [hM]; exact b1, by rw [hM]; exact b2⟩, fun k hk => ?_, fun j hj => ?_⟩
    · have hk' : k < n := by rw [hW] at hk; exact hk
      rw [← la0 hk, ← la1 hk]
      obtain ⟨q1, q2, -⟩ := c1 k hk'
      refine ⟨by rw [show (2 : Nat) + 1 = 3 from rfl, q1]; exact q2, by rw [show (2 : Nat) + 2 = 4 from rfl, hb k hk']; exact (s1 k hk').2.1⟩
    · have hj' : j < m := by rw [hM] at hj; exact hj
      rw [← la3 hj, show (2 : Nat) + 5 = 7 from rfl, hs j hj']
      exact (s3 j hj').2
theorem SI.of {l : Launch} {D : va_G} {base : Nat} {M : MI} {As : List Value} {h h2 : Hp} {v : Int32} {P : Hp → Int32 → Prop} (hs : SD l D base M As h (some (.int v)) h2) (hp : P h2 v) : SI l D base M As h P := SP.cons hs (fun h' r e => ⟨v, e.2, by rw [e.1]; exact hp⟩)
theorem SI.cons {l : Launch} {D : va_G} {base : Nat} {M : MI} {As : List Value} {h : Hp} {P P' : Hp → Int32 → Prop} (hs : SI l D base M As h P) (hp : ∀ h' x, P h' x → P' h' x) : SI l D base M As h P' := SP.cons hs (fun h' r e => by obtain ⟨x, e1, e2⟩ := e; exact ⟨x, e1, hp _ _ e2⟩)
/-- one command of the law -/
def CMD (l : Launch) (D : va_G) (base : Nat) (M1 M2 : MI) (as : List Value) : Prop := ∀ h, Rel h → SI l D base M1 (.ref 0 :: as) h (fun h1 x => SI l D base M2 (.ref 42 :: as) h1 (fun h2 y => y = x ∧ Rel h2))
/-- a question: both answer by the same rule, and change nothing that counts -/
theorem CMD.q {l : Launch} {D : va_G} {base : Nat} {M1 M2 : MI} {as : List Value} (F : Hp → Int32) (hF : ∀ h h', FC h h' → Rel h → F h' = F h) (h1 : ∀ h, Rel h → SI l D base M1 (.ref 0 :: as) h (fun h' x => FC h h' ∧ x = F h)) (h2 : ∀ h, Rel h → SI l D base M2 (.ref 42 :: as) h (fun h' x => FM h h' ∧ x = F h)) : CMD l D base M1 M2 as :=
  fun h hr => (h1 h hr).cons (fun h' x e => (h2 h' (hr.fc e.1)).cons (fun h3 y e2 => ⟨by rw [e2.2, e.2, hF h h' e.1 hr], (hr.fc e.1).fm e2.1⟩))
theorem fc_lane {h h' : Hp} (f : FC h h') : laneS h' 2 = laneS h 2 := lane_ext (fun j _ _ => f.2 2 j (by unfold scC; omega)) (fun c j h1 h2 _ => f.2 c j (by unfold scC; omega))
theorem fm_page {h h' : Hp} (f : FM h h') : pageS h' 48 = pageS h 48 := page_ext (f.2 42 4 (by unfold scM; omega)) (f.2 42 6 (by unfold scM; omega)) (fun j => f.2 48 j (by unfold scM; omega)) (fun j => f.2 44 j (by unfold scM; omega)) (fun j => f.2 45 j (by unfold scM; omega))

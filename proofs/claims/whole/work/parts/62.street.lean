theorem x_street {l : Launch} {D : va_G} {base : Nat} : CMD l D base M_Lm_street M_Md_street [] := by
  intro h hr
  obtain ⟨t1, t2, t3, t4⟩ := hr.text
  by_cases hz : (rdF (gI h 1) (lenF h)).1 = -9
  · refine (c_streetY t2 t1 hz).cons (fun h1 x e => ?_)
    obtain ⟨g, n, m, T, hfc, hE, hRC, hW, hh1, hx⟩ := e
    have hI : ∀ c j, 42 ≤ c ∨ (c = 0 ∧ j ≠ 6) ∨ c = 1 ∨ (38 ≤ c ∧ c ≤ 40) → gI h1 c j = gI h c j := fun c j hc => by
      rw [hh1, gI_fillN (by omega), gI_sM (by omega), gI_cp, if_neg (by omega), if_neg (by omega), if_neg (by omega)]
      exact hfc.2 c j (by unfold scC; omega)
    have h12 : h1.2 = h.2 := by rw [hh1]; exact hfc.1
    have htx : gI h1 43 = gI h 43 := funext (fun j => hI 43 j (by omega))
    have hz2 : (rdF (gI h1 43) (lenF h)).1 = -9 := by rw [htx, ← t4]; exact hz
    refine (r_streetY (by rw [hI 42 2 (by omega)]; exact t3) t1 hz2).cons (fun h2 y e2 => ?_)
    obtain ⟨n', m', T', hE', hW', hy, hFR, y4, y6, y17, y50, y51, yw, ym, yz, y16, y17', y18⟩ := e2
    rw [htx, ← t4, hE] at hE'
    obtain ⟨-, e1⟩ := Prod.mk.inj hE'
    obtain ⟨e2, e3⟩ := Prod.mk.inj e1
    obtain ⟨e4, e5⟩ := Prod.mk.inj e3
    subst e2 e4 e5
    refine ⟨by rw [hy, hx], ?_⟩
    have wn : n ≤ 5 := hW.2.1
    have wm : m ≤ 6 := hW.2.2.1
    have hlow : ∀ c j, c < 42 → gI h2 c j = gI h1 c j := fun c j hc => hFR.2 c j (by unfold scM; omega) (by omega) (by omega) (by omega) (by omega) (by omega)
    have h22 : h2.2 = h.2 := hFR.1.trans h12
    have hlane : ∀ j, 6 ≤ j → j ≤ 10 → gI h2 2 j = gI g 10 j := fun j h6 h10 => by
      rw [hlow 2 j (by decide), hh1, gI_fillN (by decide), gI_sN (by decide), gI_cp, if_pos ⟨rfl, h6, h10⟩]
    have hw : ∀ c k, 3 ≤ c → c ≤ 6 → k < 5 → gI h2 c k = gI g (c + 8) k := fun c k h3 h6 h5 => by
      rw [hlow c k (by omega), hh1, gI_fillN (by omega), gI_sN (by omega), gI_cp, if_neg (by omega), if_pos (by omega), show 10 + (c - 2) = c + 8 by omega]
    have hm : ∀ c k, 7 ≤ c → c ≤ 8 → k < 6 → gI h2 c k = gI g (c + 8) k := fun c k h3 h6 h5 => by
      rw [hlow c k (by omega), hh1, gI_fillN (by omega), gI_sN (by omega), gI_cp, if_neg (by omega), if_neg (by omega), if_pos (by omega), show 10 + (c - 2) = c + 8 by omega]
    obtain ⟨r1, r2, r3, r4, r5, r6, r7, r8, r9, r10⟩ := hRC
    obtain ⟨-, -, -, -, -, w6, w7, -, -⟩ := hW
    obtain ⟨n0, m0, s1, s2, s3, s4, s5, s6, s7⟩ := hr
    have hall : ∀ c j, T_ct c j ∨ T_tx c j → gI h2 c j = gI h c j := fun c j q => by
      unfold T_ct T_tx at q
      by_cases hc : c < 42
      · rw [hlow c j hc]; exact hI c j (by omega)
      · rw [hFR.2 c j (by unfold scM; omega) (by omega) (by omega) (by omega) (by omega) (by omega)]; exact hI c j (by omega)
    have h06 : gI h2 0 6 = 0 := by rw [hlow 0 6 (by decide), hh1, gI_fillN (by decide), gI_sS]
    have h37 : ∀ s, s < 2 → gI h2 37 s = 0 := fun s hs => by rw [hlow 37 s (by decide), hh1, gI_fillY hs]
    refine ⟨n, m, ⟨⟨wn, (hlane 6 (by omega) (by omega)).trans r2, y4⟩, ⟨wm, (hlane 7 (by omega) (by omega)).trans r3, y6⟩, fun k hk => ?_, fun j hj => ?_, ?_⟩, s2.same h22, ⟨0, ⟨by omega, h06, y17⟩, fun i hi => absurd hi (Nat.not_lt_zero i)⟩, fun s hs => ⟨?_, fun z => absurd (h37 s hs) z⟩, s5.ag (fun c j q => hall c j (Or.inl q)), s6.ag (fun c j q => hall c j (Or.inr q)), ?_⟩
    · rw [hw 3 k (by omega) (by omega) (by omega), hw 5 k (by omega) (by omega) (by omega), (yw k hk).1, (yw k hk).2.2]
      exact ⟨(r5 k hk).1, (w6 k hk).1, (r5 k hk).2.2.1⟩
    · rw [hm 8 j (by omega) (by omega) (by omega), (ym j hj).2]
      exact (r6 j hj).2
    · refine ⟨fun k hk => ⟨?_, ?_, ?_, rfl⟩, fun k h1' h5 => yz k h5, fun j hj => ⟨?_, ?_⟩, ?_, ?_, ?_⟩
      · rw [now_b h2 (by omega), hw 4 k (by omega) (by omega) (by omega), (yw k hk).2.1]; exact (r5 k hk).2.1
      · rw [(yw k hk).2.1]; exact (w6 k hk).2
      · rw [now_p h2 (by omega), hw 6 k (by omega) (by omega) (by omega), yz k (by omega)]; exact (r5 k hk).2.2.2
      · rw [now_s h2 (by omega), hm 7 j (by omega) (by omega) (by omega), (ym j hj).1]; exact (r6 j hj).1
      · rw [(ym j hj).1]; exact w7 j hj
      · rw [(now_at h2).1, hlane 8 (by omega) (by omega), y16]; exact r7 (by decide)
      · rw [(now_at h2).2.1, hlane 9 (by omega) (by omega), y17']; exact r8 (by decide)
      · rw [(now_at h2).2.2, hlane 10 (by omega) (by omega), y18]; exact r4
    · rw [h37 s hs]
      rcases (show s = 0 ∨ s = 1 by omega) with rfl | rfl
      · exact y50.symm
      · exact y51.symm
    · unfold gL; rw [h22]; exact s7
  · refine (c_streetN t2 t1 hz).cons (fun h1 x e => ?_)
    have hr1 := hr.fc e.1
    have el : lenF h1 = lenF h := by unfold lenF; rw [e.1.2 0 1 (by unfold scC; omega)]
    have e43 : gI h1 43 = gI h 43 := funext (fun j => e.1.2 43 j (by unfold scC; omega))
    obtain ⟨u1, u2, u3, u4⟩ := hr1.text
    refine (r_streetN u3 u1 (by rw [el, e43, ← t4]; exact hz)).cons (fun h2 y e2 => ⟨by rw [e2.2, e.2], hr1.fm e2.1⟩)

theorem vin_ex1 {v : Int32} {b : Nat} (hb : b < 2 ^ 31) (h : ¬ v < nI 1 ∧ ¬ nI b < v) : ∃ x, 1 ≤ x ∧ x ≤ b ∧ v = nI x := by
  have h0 : ¬ v < nI 0 := fun z => h.1 (by
    have z1 := Int32.lt_iff_toInt_lt.mp z
    rw [nI_toInt (by decide)] at z1
    exact Int32.lt_iff_toInt_lt.mpr (by rw [nI_toInt (by decide)]; omega))
  obtain ⟨x, hx, rfl⟩ := vin_ex hb ⟨h0, h.2⟩
  refine ⟨x, ?_, hx, rfl⟩
  rcases Nat.eq_zero_or_pos x with e | e
  · subst e; exact absurd (by decide +kernel) h.1
  · exact e
theorem st_of2 {q : Nat → Nat → Nat} {I : Nat → Nat → Int32} {L : Nat → Nat → Int64} {u u' : Nat → Nat} {yC yM : hz_Y} {as : List Value} {r : Value} (V : INV q I L u) (U' : WU u')
    (Ec : hz_Ex yC TT NN (I, L, PP q) (.ref 1 :: as) (hz_PQ L (some r) (fun q' J => HV 12 q' J u' ∧ kpC I J ∧ kpQ q q')))
    (Em : ∀ q' J, MV J u → kpC I J → hz_Ex yM TT NN (J, L, PP q') (.ref 146 :: as) (hz_PI L (PP q') (some r) (fun K => MV K u' ∧ kpM J K))) (hr : tyv yC r = true := by exact rfl) : ST yC yM (I, L, PP q) as := by
  obtain ⟨v1, v2, v3, v4⟩ := V
  refine st_mk (Ec.mono ?_) hr
  rintro _ _ ⟨q', J, rfl, rfl, h1, h2, h3⟩
  refine ⟨rfl, (Em q' J (h2.mV v3) h2).mono ?_⟩
  rintro _ _ ⟨K, rfl, rfl, h4, h5⟩
  exact ⟨rfl, q', K, L, u', ⟨h5.hV h1 U', U', h4, (v4.c h2 h3).m h5⟩, Or.inl rfl⟩
theorem st_ref2 {q : Nat → Nat → Nat} {I J : Nat → Nat → Int32} {L : Nat → Nat → Int64} {u : Nat → Nat} {yC yM : hz_Y} {as : List Value} {r : Value} {k : Nat} (hk : k < 3) (V : INV q I L u) (hJ : HV 12 q J u ∧ kpC I J) (K : (Nat → Nat → Int32) → Nat → Nat → Int32)
    (Ec : hz_Ev yC TT NN (I, L, PP q) (.ref 1 :: as) 0 0 (some r) TT NN (hz_up J 1 (8 + k) (J 1 (8 + k) + nI 1), L, PP q)) (hK : ∀ J, MV J u → MV (K J) u ∧ kpM J (K J))
    (Em : ∀ J, MV J u → hz_Ev yM TT NN (J, L, PP q) (.ref 146 :: as) 0 0 (some r) TT NN (hz_up (K J) 151 k (K J 151 k + nI 1), L, PP q)) (hr : tyv yC r = true := by exact rfl) : ST yC yM (I, L, PP q) as := by
  obtain ⟨v1, v2, v3, v4⟩ := V
  have m1 : MV (hz_up J 1 (8 + k) (J 1 (8 + k) + nI 1)) u := (hJ.2.mV v3).cong (hz_up_ne _ _ _ _ (by omega))
  obtain ⟨k1, k2⟩ := hK _ m1
  refine st_mk (Ec.x ⟨rfl, (Em _ m1).x ⟨rfl, q, _, L, u, ⟨?_, v2, ?_, ?_⟩, Or.inl rfl⟩⟩) hr
  · exact hJ.1.cong v2 (fun a h1 h2 => by rw [hz_up_ne _ _ _ _ (by omega), k2.1 a (by omega), hz_up_ne _ _ _ _ (by omega)]) (fun _ => rfl)
  · exact k1.cong (hz_up_ne _ _ _ _ (by omega))
  · have h := (v4.c hJ.2 (kpQ.rf q)).cnt hk
    refine h.m ⟨fun a ha => ?_, ?_⟩
    · by_cases e : a = 151
      · subst e
        rw [hz_up_eq, hz_up_eq, k2.1 151 (by omega), hz_up_ne _ _ _ _ (by omega)]
      · rw [hz_up_ne _ _ _ _ e, hz_up_ne _ _ _ _ e, k2.1 a ha]
    · rw [hz_up_ne _ _ _ _ (by omega), hz_up_ne _ _ _ _ (by omega), k2.2]
theorem st_same {q : Nat → Nat → Nat} {I : Nat → Nat → Int32} {L : Nat → Nat → Int64} {u : Nat → Nat} {yC yM : hz_Y} {as : List Value} {r r' : Value} (V : INV q I L u) (e : r' = r)
    (Ec : hz_Ev yC TT NN (I, L, PP q) (.ref 1 :: as) 0 0 (some r) TT NN (I, L, PP q)) (Em : hz_Ev yM TT NN (I, L, PP q) (.ref 146 :: as) 0 0 (some r') TT NN (I, L, PP q)) (hr : tyv yC r = true := by exact rfl) : ST yC yM (I, L, PP q) as := by
  subst e
  exact st_mk (Ec.x ⟨rfl, Em.x ⟨rfl, q, I, L, u, V, Or.inl rfl⟩⟩) hr
/-! asking -/
theorem sp_heard {q : Nat → Nat → Nat} {I : Nat → Nat → Int32} {L : Nat → Nat → Int64} {u : Nat → Nat} (V : INV q I L u) (v1 v2 : Int32) : ST mX10_heard mX11_heard (I, L, PP q) [.int v1, .int v2] := by
  by_cases hb : (¬ v1 < nI 0 ∧ ¬ nI 7 < v1) ∧ (¬ v2 < nI 0 ∧ ¬ nI 9999 < v2)
  · obtain ⟨g1, g2⟩ := hb
    obtain ⟨x1, h1, rfl⟩ := vin_ex (b := 7) (by decide) g1
    obtain ⟨x2, h2, rfl⟩ := vin_ex (b := 9999) (by decide) g2
    exact st_ask (K := lm u) V (ev_heard V.1 V.2.1 (by omega) h2) ⟨hv_msb V.1 V.2.1 _, kpC.msB _ _ _⟩ (fun q' J hJ => ev_heardM hJ V.2.1 (by omega) h2) (fun J hJ => ⟨hJ.lM, kpM.lM _ _⟩)
  · exact st_ref (k := 0) (by omega) V (ev_heardX V.1 V.2.1 _ _ hb) (fun J hJ => ev_heardXM hJ V.2.1 _ _ hb)
theorem sp_far {q : Nat → Nat → Nat} {I : Nat → Nat → Int32} {L : Nat → Nat → Int64} {u : Nat → Nat} (V : INV q I L u) (v1 v2 : Int32) : ST mX10_far mX11_far (I, L, PP q) [.int v1, .int v2] := by
  by_cases hb : (¬ v1 < nI 0 ∧ ¬ nI 7 < v1) ∧ (¬ v2 < nI 0 ∧ ¬ nI 7 < v2)
  · obtain ⟨g1, g2⟩ := hb
    obtain ⟨x1, h1, rfl⟩ := vin_ex (b := 7) (by decide) g1
    obtain ⟨x2, h2, rfl⟩ := vin_ex (b := 7) (by decide) g2
    exact st_ask (K := lm u) V (ev_far V.1 V.2.1 (by omega) (by omega)) ⟨hv_ms V.1 V.2.1, kpC.mS _ _⟩ (fun q' J hJ => ev_farM hJ V.2.1 (by omega) (by omega)) (fun J hJ => ⟨hJ.lM, kpM.lM _ _⟩)
  · exact st_ref (k := 0) (by omega) V (ev_farX2 V.1 V.2.1 _ _ hb) (fun J hJ => ev_farX2M hJ V.2.1 _ _ hb)
theorem sp_through {q : Nat → Nat → Nat} {I : Nat → Nat → Int32} {L : Nat → Nat → Int64} {u : Nat → Nat} (V : INV q I L u) (v1 v2 : Int32) : ST mX10_through mX11_through (I, L, PP q) [.int v1, .int v2] := by
  by_cases hb : (¬ v1 < nI 0 ∧ ¬ nI 7 < v1) ∧ (¬ v2 < nI 0 ∧ ¬ nI (u 64) - nI 1 < v2)
  · obtain ⟨g1, g2⟩ := hb
    obtain ⟨x1, h1, rfl⟩ := vin_ex (b := 7) (by decide) g1
    obtain ⟨x2, h2, rfl⟩ := vk_ex (wu_al V.2.1) g2
    exact st_ask (K := lm u) V (ev_through V.1 V.2.1 (by omega) h2) ⟨hv_ms V.1 V.2.1, kpC.mS _ _⟩ (fun q' J hJ => ev_throughM hJ V.2.1 (by omega) h2) (fun J hJ => ⟨hJ.lM, kpM.lM _ _⟩)
  · exact st_ref (k := 0) (by omega) V (ev_throughX V.1 V.2.1 _ _ hb) (fun J hJ => ev_throughXM hJ V.2.1 _ _ hb)
theorem sp_which {q : Nat → Nat → Nat} {I : Nat → Nat → Int32} {L : Nat → Nat → Int64} {u : Nat → Nat} (V : INV q I L u)  : ST mX10_which mX11_which (I, L, PP q) [] := by
  exact st_ask (K := lm u) V (ev_which V.1 V.2.1 ) ⟨hv_msb V.1 V.2.1 _, kpC.msB _ _ _⟩ (fun q' J hJ => ev_whichM hJ V.2.1 ) (fun J hJ => ⟨hJ.lM, kpM.lM _ _⟩)
theorem sp_beside {q : Nat → Nat → Nat} {I : Nat → Nat → Int32} {L : Nat → Nat → Int64} {u : Nat → Nat} (V : INV q I L u)  : ST mX10_beside mX11_beside (I, L, PP q) [] := by
  exact st_ask (K := lm u) V (ev_beside V.1 V.2.1 ) ⟨hv_msb V.1 V.2.1 _, kpC.msB _ _ _⟩ (fun q' J hJ => ev_besideM hJ V.2.1 ) (fun J hJ => ⟨hJ.lM, kpM.lM _ _⟩)
theorem sp_beeps {q : Nat → Nat → Nat} {I : Nat → Nat → Int32} {L : Nat → Nat → Int64} {u : Nat → Nat} (V : INV q I L u) (v1 v2 : Int32) : ST mX10_beeps mX11_beeps (I, L, PP q) [.int v1, .int v2] := by
  by_cases hb : (¬ v1 < nI 0 ∧ ¬ nI (u 64) - nI 1 < v1) ∧ (¬ v2 < nI 0 ∧ ¬ nI 9999 < v2)
  · obtain ⟨g1, g2⟩ := hb
    obtain ⟨x1, h1, rfl⟩ := vk_ex (wu_al V.2.1) g1
    obtain ⟨x2, h2, rfl⟩ := vin_ex (b := 9999) (by decide) g2
    exact st_ask (K := fun J => J) V (ev_beeps V.1 V.2.1 h1 h2) ⟨V.1, kpC.rf _⟩ (fun q' J hJ => ev_beepsM hJ V.2.1 h1 h2) (fun J hJ => ⟨hJ, kpM.rf _⟩)
  · exact st_ref (k := 0) (by omega) V (ev_beepsX V.1 V.2.1 _ _ hb) (fun J hJ => ev_beepsXM hJ V.2.1 _ _ hb)
theorem sp_coldest {q : Nat → Nat → Nat} {I : Nat → Nat → Int32} {L : Nat → Nat → Int64} {u : Nat → Nat} (V : INV q I L u) (v1 : Int32) : ST mX10_coldest mX11_coldest (I, L, PP q) [.int v1] := by
  by_cases hb : (¬ v1 < nI 0 ∧ ¬ nI (u 64) - nI 1 < v1)
  · have g1 := hb
    obtain ⟨x1, h1, rfl⟩ := vk_ex (wu_al V.2.1) g1
    exact st_ask (K := fun J => J) V (ev_coldest V.1 V.2.1 h1) ⟨V.1, kpC.rf _⟩ (fun q' J hJ => ev_coldestM hJ V.2.1 h1) (fun J hJ => ⟨hJ, kpM.rf _⟩)
  · exact st_ref (k := 0) (by omega) V (ev_coldestX V.1 V.2.1 _ hb) (fun J hJ => ev_coldestXM hJ V.2.1 _ hb)
theorem sp_two {q : Nat → Nat → Nat} {I : Nat → Nat → Int32} {L : Nat → Nat → Int64} {u : Nat → Nat} (V : INV q I L u) (v1 v2 : Int32) : ST mX10_two mX11_two (I, L, PP q) [.int v1, .int v2] := by
  by_cases hb : (¬ v1 < nI 0 ∧ ¬ nI 7 < v1) ∧ (¬ v2 < nI 0 ∧ ¬ nI 7 < v2)
  · obtain ⟨g1, g2⟩ := hb
    obtain ⟨x1, h1, rfl⟩ := vin_ex (b := 7) (by decide) g1
    obtain ⟨x2, h2, rfl⟩ := vin_ex (b := 7) (by decide) g2
    exact st_ask (K := lm u) V (ev_two V.1 V.2.1 (by omega) (by omega)) ⟨hv_msb V.1 V.2.1 _, kpC.msB _ _ _⟩ (fun q' J hJ => ev_twoM hJ V.2.1 (by omega) (by omega)) (fun J hJ => ⟨hJ.lM, kpM.lM _ _⟩)
  · exact st_ref (k := 0) (by omega) V (ev_twoX V.1 V.2.1 _ _ hb) (fun J hJ => ev_twoXM hJ V.2.1 _ _ hb)
theorem sp_nights {q : Nat → Nat → Nat} {I : Nat → Nat → Int32} {L : Nat → Nat → Int64} {u : Nat → Nat} (V : INV q I L u) (v1 v2 : Int32) : ST mX10_nights mX11_nights (I, L, PP q) [.int v1, .int v2] := by
  by_cases hb : (¬ v1 < nI 0 ∧ ¬ nI 999999 < v1) ∧ (¬ v2 < nI 0 ∧ ¬ nI 60 < v2)
  · obtain ⟨g1, g2⟩ := hb
    obtain ⟨x1, h1, rfl⟩ := vin_ex (b := 999999) (by decide) g1
    obtain ⟨x2, h2, rfl⟩ := vin_ex (b := 60) (by decide) g2
    exact st_ask (K := lm u) V (ev_nights V.1 V.2.1 h1 h2) ⟨hv_msb V.1 V.2.1 _, kpC.msB _ _ _⟩ (fun q' J hJ => ev_nightsM hJ V.2.1 h1 h2) (fun J hJ => ⟨hJ.lM, kpM.lM _ _⟩)
  · exact st_ref (k := 0) (by omega) V (ev_nightsX V.1 V.2.1 _ _ hb) (fun J hJ => ev_nightsXM hJ V.2.1 _ _ hb)
theorem sp_next {q : Nat → Nat → Nat} {I : Nat → Nat → Int32} {L : Nat → Nat → Int64} {u : Nat → Nat} (V : INV q I L u) (v1 v2 : Int32) : ST mX10_next mX11_next (I, L, PP q) [.int v1, .int v2] := by
  by_cases hb : (¬ v2 < nI 0 ∧ ¬ nI 1 < v2)
  · have g1 := hb
    obtain ⟨x1, h1, rfl⟩ := vin_ex (b := 1) (by decide) g1
    rcases (show x1 = 0 ∨ x1 = 1 by omega) with rfl | rfl
    · by_cases hb : ¬ v1 < nI 0 ∧ ¬ nI 7 < v1
      · obtain ⟨y, hy, rfl⟩ := vin_ex (b := 7) (by decide) hb
        exact st_ask (K := lm u) V (ev_next0 V.1 V.2.1 (by omega)) ⟨hv_msb V.1 V.2.1 _, kpC.msB _ _ _⟩ (fun q' J hJ => ev_next0M hJ V.2.1 (by omega)) (fun J hJ => ⟨hJ.lM, kpM.lM _ _⟩)
      · exact st_ref (k := 0) (by omega) V (ev_nextX0 V.1 V.2.1 _ hb) (fun J hJ => ev_nextX0M hJ V.2.1 _ hb)
    · by_cases hb : ¬ v1 < nI 0 ∧ ¬ nI (u 64) - nI 1 < v1
      · obtain ⟨y, hy, rfl⟩ := vk_ex (wu_al V.2.1) hb
        exact st_ask (K := lm u) V (ev_next1 V.1 V.2.1 hy) ⟨V.1, kpC.rf _⟩ (fun q' J hJ => ev_next1M hJ V.2.1 hy) (fun J hJ => ⟨hJ.lM, kpM.lM _ _⟩)
      · exact st_ref (k := 0) (by omega) V (ev_nextX1 V.1 V.2.1 _ hb) (fun J hJ => ev_nextX1M hJ V.2.1 _ hb)
  · exact st_ref (k := 0) (by omega) V (ev_nextX V.1 V.2.1 _ _ hb) (fun J hJ => ev_nextXM hJ V.2.1 _ _ hb)
theorem sp_is {q : Nat → Nat → Nat} {I : Nat → Nat → Int32} {L : Nat → Nat → Int64} {u : Nat → Nat} (V : INV q I L u) (v1 v2 v3 : Int32) : ST mX10_is mX11_is (I, L, PP q) [.int v1, .int v2, .int v3] := by
  by_cases hb : (¬ v1 < nI 0 ∧ ¬ nI (u 64) - nI 1 < v1) ∧ (¬ v2 < nI 0 ∧ ¬ nI 9999 < v2) ∧ (¬ v3 < nI 0 ∧ ¬ nI 1 < v3)
  · obtain ⟨g1, g2, g3⟩ := hb
    obtain ⟨x1, h1, rfl⟩ := vk_ex (wu_al V.2.1) g1
    obtain ⟨x2, h2, rfl⟩ := vin_ex (b := 9999) (by decide) g2
    obtain ⟨x3, h3, rfl⟩ := vin_ex (b := 1) (by decide) g3
    rcases (show x3 = 0 ∨ x3 = 1 by omega) with rfl | rfl
    · exact st_ask (K := fun J => J) V (ev_is0 V.1 V.2.1 h1 h2) ⟨V.1, kpC.rf _⟩ (fun q' J hJ => ev_is0M hJ V.2.1 h1 h2) (fun J hJ => ⟨hJ, kpM.rf _⟩)
    · exact st_ask (K := fun J => J) V (ev_is1 V.1 V.2.1 h1 h2) ⟨V.1, kpC.rf _⟩ (fun q' J hJ => ev_is1M hJ V.2.1 h1 h2) (fun J hJ => ⟨hJ, kpM.rf _⟩)
  · exact st_ref (k := 0) (by omega) V (ev_isX V.1 V.2.1 _ _ _ hb) (fun J hJ => ev_isXM hJ V.2.1 _ _ _ hb)
theorem sp_of {q : Nat → Nat → Nat} {I : Nat → Nat → Int32} {L : Nat → Nat → Int64} {u : Nat → Nat} (V : INV q I L u) (v1 v2 : Int32) : ST mX10_of mX11_of (I, L, PP q) [.int v1, .int v2] := by
  by_cases hb : (¬ v1 < nI 0 ∧ ¬ nI (u 64) - nI 1 < v1)
  · have g1 := hb
    obtain ⟨x1, h1, rfl⟩ := vk_ex (wu_al V.2.1) g1
    by_cases hc : ¬ v2 < nI 0 ∧ ¬ nI 4 < v2
    · obtain ⟨y, hy, rfl⟩ := vin_ex (b := 4) (by decide) hc
      rcases (show y = 0 ∨ y = 1 ∨ y = 2 ∨ y = 3 ∨ y = 4 by omega) with rfl | rfl | rfl | rfl | rfl
      · exact st_ask (K := fun J => J) V (ev_of0 V.1 V.2.1 h1) ⟨V.1, kpC.rf _⟩ (fun q' J hJ => ev_of0M hJ V.2.1 h1) (fun J hJ => ⟨hJ, kpM.rf _⟩)
      · exact st_ask (K := fun J => J) V (ev_of1 V.1 V.2.1 h1) ⟨V.1, kpC.rf _⟩ (fun q' J hJ => ev_of1M hJ V.2.1 h1) (fun J hJ => ⟨hJ, kpM.rf _⟩)
      · exact st_ask (K := fun J => J) V (ev_of2 V.1 V.2.1 h1) ⟨V.1, kpC.rf _⟩ (fun q' J hJ => ev_of2M hJ V.2.1 h1) (fun J hJ => ⟨hJ, kpM.rf _⟩)
      · exact st_ask (K := fun J => J) V (ev_of3 V.1 V.2.1 h1) ⟨V.1, kpC.rf _⟩ (fun q' J hJ => ev_of3M hJ V.2.1 h1) (fun J hJ => ⟨hJ, kpM.rf _⟩)
      · exact st_ask (K := fun J => J) V (ev_of4 V.1 V.2.1 h1) ⟨V.1, kpC.rf _⟩ (fun q' J hJ => ev_of4M hJ V.2.1 h1) (fun J hJ => ⟨hJ, kpM.rf _⟩)
    · exact st_ref (k := 0) (by omega) V (ev_ofY V.1 V.2.1 h1 _ hc) (fun J hJ => ev_ofYM hJ V.2.1 h1 _ hc)
  · exact st_ref (k := 0) (by omega) V (ev_ofX V.1 V.2.1 _ _ hb) (fun J hJ => ev_ofXM hJ V.2.1 _ _ hb)
theorem sp_count {q : Nat → Nat → Nat} {I : Nat → Nat → Int32} {L : Nat → Nat → Int64} {u : Nat → Nat} (V : INV q I L u) (v1 : Int32) : ST mX10_count mX11_count (I, L, PP q) [.int v1] := by
  by_cases hb : (¬ v1 < nI 0 ∧ ¬ nI 7 < v1)
  · have g1 := hb
    obtain ⟨x1, h1, rfl⟩ := vin_ex (b := 7) (by decide) g1
    rcases (show x1 = 0 ∨ x1 = 1 ∨ x1 = 2 ∨ x1 = 3 ∨ x1 = 4 ∨ x1 = 5 ∨ x1 = 6 ∨ x1 = 7 by omega) with rfl | rfl | rfl | rfl | rfl | rfl | rfl | rfl
    · exact st_ask (K := fun J => J) V (ev_count0 V.1 V.2.1 ) ⟨V.1, kpC.rf _⟩ (fun q' J hJ => ev_count0M hJ V.2.1 ) (fun J hJ => ⟨hJ, kpM.rf _⟩)
    · exact st_ask (K := fun J => J) V (ev_count1 V.1 V.2.1 ) ⟨V.1, kpC.rf _⟩ (fun q' J hJ => ev_count1M hJ V.2.1 ) (fun J hJ => ⟨hJ, kpM.rf _⟩)
    · exact st_ask (K := fun J => J) V (ev_count2 V.1 V.2.1 ) ⟨V.1, kpC.rf _⟩ (fun q' J hJ => ev_count2M hJ V.2.1 ) (fun J hJ => ⟨hJ, kpM.rf _⟩)
    · exact st_ask (K := fun J => J) V (ev_count3 V.1 V.2.1 ) ⟨V.1, kpC.rf _⟩ (fun q' J hJ => ev_count3M hJ V.2.1 ) (fun J hJ => ⟨hJ, kpM.rf _⟩)
    · exact st_ask (K := fun J => J) V (ev_count4 V.1 V.2.1 ) ⟨V.1, kpC.rf _⟩ (fun q' J hJ => ev_count4M hJ V.2.1 ) (fun J hJ => ⟨hJ, kpM.rf _⟩)
    · exact st_ask (K := fun J => J) V (ev_count5 V.1 V.2.1 ) ⟨V.1, kpC.rf _⟩ (fun q' J hJ => ev_count5M hJ V.2.1 ) (fun J hJ => ⟨hJ, kpM.rf _⟩)
    · exact st_ask (K := fun J => J) V (ev_count6 V.1 V.2.1 ) ⟨V.1, kpC.rf _⟩ (fun q' J hJ => ev_count6M hJ V.2.1 ) (fun J hJ => ⟨hJ, kpM.rf _⟩)
    · obtain ⟨t, t1, t2, t3, t4⟩ := V.2.2.2.2.2.2.1
      exact st_same V (congrArg Value.int (t3.trans t2.symm)) (ev_count7 V.1 V.2.1) (ev_count7M V.2.2.1 V.2.1)
  · exact st_ref (k := 0) (by omega) V (ev_countX V.1 V.2.1 _ hb) (fun J hJ => ev_countXM hJ V.2.1 _ hb)
theorem sp_status {q : Nat → Nat → Nat} {I : Nat → Nat → Int32} {L : Nat → Nat → Int64} {u : Nat → Nat} (V : INV q I L u) (v1 : Int32) : ST mX10_status mX11_status (I, L, PP q) [.int v1] := by
  by_cases hb : (¬ v1 < nI 0 ∧ ¬ nI 2 < v1)
  · have g1 := hb
    obtain ⟨x1, h1, rfl⟩ := vin_ex (b := 2) (by decide) g1
    rcases (show x1 = 0 ∨ x1 = 1 ∨ x1 = 2 by omega) with rfl | rfl | rfl
    · exact st_same V (congrArg Value.int (V.2.2.2.2.2.2.2.1.1).symm) ev_status0 ev_status0M
    · exact st_same V (congrArg Value.int (V.2.2.2.2.2.2.2.1.2.1).symm) ev_status1 ev_status1M
    · exact st_same V (congrArg Value.int (V.2.2.2.2.2.2.2.1.2.2).symm) ev_status2 ev_status2M
  · exact st_ref (k := 0) (by omega) V (ev_statusX _ hb) (fun J hJ => ev_statusXM _ hb)
theorem sp_part {q : Nat → Nat → Nat} {I : Nat → Nat → Int32} {L : Nat → Nat → Int64} {u : Nat → Nat} (V : INV q I L u) (v1 : Int32) : ST mX10_part mX11_part (I, L, PP q) [.int v1] := by
  by_cases hb : (¬ v1 < nI 0 ∧ ¬ nI 1 < v1)
  · have g1 := hb
    obtain ⟨x1, h1, rfl⟩ := vin_ex (b := 1) (by decide) g1
    rcases (show x1 = 0 ∨ x1 = 1 by omega) with rfl | rfl
    · exact st_same V (congrArg Value.long (V.2.2.2.2.2.2.2.2.1.1).symm) ev_part0 ev_part0M
    · exact st_same V (congrArg Value.long (V.2.2.2.2.2.2.2.2.1.2).symm) ev_part1 ev_part1M
  · exact st_ref (k := 0) (by omega) V (ev_partX _ hb) (fun J hJ => ev_partXM _ hb)
theorem sp_digest {q : Nat → Nat → Nat} {I : Nat → Nat → Int32} {L : Nat → Nat → Int64} {u : Nat → Nat} (V : INV q I L u)  : ST mX10_digest mX11_digest (I, L, PP q) [] := by
  obtain ⟨t, t1, t2, t3, t4⟩ := V.2.2.2.2.2.2.1
  exact st_same V (by rw [t2, t3, V.2.2.2.2.2.2.2.2.1.1, V.2.2.2.2.2.2.2.2.1.2]) (ev_digest V.1 V.2.1) (ev_digestM V.2.2.1 V.2.1)
/-! changing -/
theorem sp_house {q : Nat → Nat → Nat} {I : Nat → Nat → Int32} {L : Nat → Nat → Int64} {u : Nat → Nat} (V : INV q I L u)  : ST mX10_house mX11_house (I, L, PP q) [] := by
  exact st_of V wu_0 (ex_house V.1 V.2.1) (fun q' J hJ => ex_houseM hJ V.2.1)
theorem door_and {a b c d : Prop} (h : a ∧ b ∧ c ∧ d) : a ∧ b ∧ c ∧ d := h
theorem sp_door {q : Nat → Nat → Nat} {I : Nat → Nat → Int32} {L : Nat → Nat → Int64} {u : Nat → Nat} (V : INV q I L u) (v1 v2 v3 : Int32) : ST mX10_door mX11_door (I, L, PP q) [.int v1, .int v2, .int v3] := by
  by_cases hb : (¬ v1 < nI 0 ∧ ¬ nI 7 < v1) ∧ (¬ v2 < nI 0 ∧ ¬ nI 7 < v2) ∧ (¬ v1 = v2) ∧ (¬ v3 < nI 1 ∧ ¬ nI 9 < v3)
  · obtain ⟨g1, g2, g3, g4⟩ := hb
    obtain ⟨x1, h1, rfl⟩ := vin_ex (b := 7) (by decide) g1
    obtain ⟨x2, h2, rfl⟩ := vin_ex (b := 7) (by decide) g2
    obtain ⟨x3, l3, h3, rfl⟩ := vin_ex1 (b := 9) (by decide) g4
    have hne : ¬ x1 = x2 := fun z => g3 (by rw [z])
    exact st_of V (wu_door V.2.1 (by omega) (by omega) hne h3) (ex_door V.1 V.2.1 (by omega) (by omega) hne l3 h3) (fun q' J hJ => ex_doorM hJ V.2.1 (by omega) (by omega) hne l3 h3)
  · exact st_ref (k := 0) (by omega) V (ev_doorX V.1 V.2.1 _ _ _ hb) (fun J hJ => ev_doorXM hJ V.2.1 _ _ _ hb)
theorem sp_alarm {q : Nat → Nat → Nat} {I : Nat → Nat → Int32} {L : Nat → Nat → Int64} {u : Nat → Nat} (V : INV q I L u) (v1 v2 v3 : Int32) : ST mX10_alarm mX11_alarm (I, L, PP q) [.int v1, .int v2, .int v3] := by
  by_cases hb : (¬ v1 < nI 0 ∧ ¬ nI 5 < v1) ∧ (¬ v2 < nI 0 ∧ ¬ nI 7 < v2) ∧ (¬ v3 < nI 0 ∧ ¬ nI 99 < v3)
  · obtain ⟨g1, g2, g3⟩ := hb
    obtain ⟨x1, h1, rfl⟩ := vin_ex (b := 5) (by decide) g1
    obtain ⟨x2, h2, rfl⟩ := vin_ex (b := 7) (by decide) g2
    obtain ⟨x3, h3, rfl⟩ := vin_ex (b := 99) (by decide) g3
    by_cases h6 : u 64 < 6
    · exact st_of V (wu_alarm V.2.1 h6 (by omega) (by omega) h3) (ex_alarm V.1 V.2.1 h6 (by omega) (by omega) h3) (fun q' J hJ => ex_alarmM hJ V.2.1 h6 (by omega) (by omega) h3)
    · have h66 : u 64 = 6 := by have := wu_al V.2.1; omega
      exact st_ref (k := 2) (by omega) V (ev_alarmF V.1 V.2.1 h66 (by omega) (by omega) h3) (fun J hJ => ev_alarmFM hJ V.2.1 h66 (by omega) (by omega) h3)
  · exact st_ref (k := 0) (by omega) V (ev_alarmX V.1 V.2.1 _ _ _ hb) (fun J hJ => ev_alarmXM hJ V.2.1 _ _ _ hb)
theorem sp_waits {q : Nat → Nat → Nat} {I : Nat → Nat → Int32} {L : Nat → Nat → Int64} {u : Nat → Nat} (V : INV q I L u) (v1 : Int32) : ST mX10_waits mX11_waits (I, L, PP q) [.int v1] := by
  by_cases hb : (¬ v1 < nI 1 ∧ ¬ nI 99 < v1)
  · have g1 := hb
    obtain ⟨x1, l1, h1, rfl⟩ := vin_ex1 (b := 99) (by decide) g1
    exact st_of V (wu_sec (wu_keep V.2.1) (Nat.min_le_left _ _)) (ex_waits V.1 V.2.1 l1 h1 rfl) (fun q' J hJ => ex_waitsM hJ V.2.1 l1 h1 rfl)
  · exact st_ref (k := 0) (by omega) V (ev_waitsX V.1 V.2.1 _ hb) (fun J hJ => ev_waitsXM hJ V.2.1 _ hb)
theorem sp_walk {q : Nat → Nat → Nat} {I : Nat → Nat → Int32} {L : Nat → Nat → Int64} {u : Nat → Nat} (V : INV q I L u) (v1 : Int32) : ST mX10_walk mX11_walk (I, L, PP q) [.int v1] := by
  by_cases hb : (¬ v1 < nI 0 ∧ ¬ nI 7 < v1)
  · have g1 := hb
    obtain ⟨x1, h1, rfl⟩ := vin_ex (b := 7) (by decide) g1
    by_cases hd : ds u (u 91) x1 < 1000
    · exact st_of V (wu_plc (wu_sec (wu_keep V.2.1) (Nat.min_le_left _ _)) (by omega)) (ex_walk V.1 V.2.1 (by omega) hd rfl) (fun q' J hJ => ex_walkM hJ V.2.1 (by omega) hd rfl)
    · exact st_ref2 (k := 1) (by omega) V ⟨hv_ms V.1 V.2.1, kpC.mS _ _⟩ (lm u) (ev_walkN V.1 V.2.1 (by omega) (by omega)) (fun J hJ => ⟨hJ.lM, kpM.lM _ _⟩) (fun J hJ => ev_walkNM hJ V.2.1 (by omega) (by omega))
  · exact st_ref (k := 0) (by omega) V (ev_walkX V.1 V.2.1 _ hb) (fun J hJ => ev_walkXM hJ V.2.1 _ hb)
theorem sp_take {q : Nat → Nat → Nat} {I : Nat → Nat → Int32} {L : Nat → Nat → Int64} {u : Nat → Nat} (V : INV q I L u) (v1 v2 : Int32) : ST mX10_take mX11_take (I, L, PP q) [.int v1, .int v2] := by
  by_cases hb : (¬ v1 < nI 0 ∧ ¬ nI (u 64) - nI 1 < v1) ∧ (¬ v2 < nI 0 ∧ ¬ nI 1 < v2)
  · obtain ⟨g1, g2⟩ := hb
    obtain ⟨x1, h1, rfl⟩ := vk_ex (wu_al V.2.1) g1
    obtain ⟨x2, h2, rfl⟩ := vin_ex (b := 1) (by decide) g2
    by_cases hp : u (71 + x1) = u 91
    · exact st_of V (wu_down (wu_keep V.2.1) (down_v (wu_dn V.2.1) (by have := wu_al V.2.1; omega) (by omega)).2) (ex_take V.1 V.2.1 h1 h2 hp) (fun q' J hJ => ex_takeM hJ V.2.1 h1 h2 hp)
    · exact st_ref (k := 1) (by omega) V (ev_takeN V.1 V.2.1 h1 h2 hp) (fun J hJ => ev_takeNM hJ V.2.1 h1 h2 hp)
  · exact st_ref (k := 0) (by omega) V (ev_takeX V.1 V.2.1 _ _ hb) (fun J hJ => ev_takeXM hJ V.2.1 _ _ hb)
theorem sp_battery {q : Nat → Nat → Nat} {I : Nat → Nat → Int32} {L : Nat → Nat → Int64} {u : Nat → Nat} (V : INV q I L u) (v1 v2 : Int32) : ST mX10_battery mX11_battery (I, L, PP q) [.int v1, .int v2] := by
  by_cases hb : (¬ v1 < nI 0 ∧ ¬ nI (u 64) - nI 1 < v1) ∧ (¬ v2 < nI 0 ∧ ¬ nI 99 < v2)
  · obtain ⟨g1, g2⟩ := hb
    obtain ⟨x1, h1, rfl⟩ := vk_ex (wu_al V.2.1) g1
    obtain ⟨x2, h2, rfl⟩ := vin_ex (b := 99) (by decide) g2
    exact st_of V (wu_bat (wu_keep V.2.1) (by rw [kb_lo u (by omega)]; exact h1) h2) (ex_battery V.1 V.2.1 h1 h2) (fun q' J hJ => ex_batteryM hJ V.2.1 h1 h2)
  · exact st_ref (k := 0) (by omega) V (ev_batteryX V.1 V.2.1 _ _ hb) (fun J hJ => ev_batteryXM hJ V.2.1 _ _ hb)
theorem sp_cold {q : Nat → Nat → Nat} {I : Nat → Nat → Int32} {L : Nat → Nat → Int64} {u : Nat → Nat} (V : INV q I L u) (v1 : Int32) : ST mX10_cold mX11_cold (I, L, PP q) [.int v1] := by
  by_cases hb : (¬ v1 < nI 0 ∧ ¬ nI 9 < v1)
  · have g1 := hb
    obtain ⟨x1, h1, rfl⟩ := vin_ex (b := 9) (by decide) g1
    exact st_of V (wu_cold (wu_keep V.2.1) h1) (ex_cold V.1 V.2.1 h1) (fun q' J hJ => ex_coldM hJ V.2.1 h1)
  · exact st_ref (k := 0) (by omega) V (ev_coldX V.1 V.2.1 _ hb) (fun J hJ => ev_coldXM hJ V.2.1 _ hb)
theorem sp_undo {q : Nat → Nat → Nat} {I : Nat → Nat → Int32} {L : Nat → Nat → Int64} {u : Nat → Nat} (V : INV q I L u)  : ST mX10_undo mX11_undo (I, L, PP q) [] := by
  rcases Nat.eq_zero_or_pos (u 100) with e | e
  · exact st_ref (k := 1) (by omega) V (ev_undoN V.1 V.2.1 e) (fun J hJ => ev_undoNM hJ V.2.1 e)
  · obtain ⟨n, hn⟩ : ∃ n, u 100 = n + 1 := ⟨u 100 - 1, by omega⟩
    exact st_of V (wu_undo V.2.1 hn) (ex_undo V.1 V.2.1 hn) (fun q' J hJ => ex_undoM hJ V.2.1 hn)
theorem sp_note {q : Nat → Nat → Nat} {I : Nat → Nat → Int32} {L : Nat → Nat → Int64} {u : Nat → Nat} (V : INV q I L u) (v1 v2 : Int32) : ST mX10_note mX11_note (I, L, PP q) [.int v1, .int v2] := by
  by_cases hb : (¬ v1 < nI 0 ∧ ¬ nI 7 < v1) ∧ (¬ v2 < (-1 : Int32) ∧ ¬ nI 7 < v2)
  · obtain ⟨g1, g2⟩ := hb
    obtain ⟨x1, h1, rfl⟩ := vin_ex (b := 7) (by decide) g1
    obtain ⟨x2, h2, rfl⟩ := vt_ex g2
    by_cases h6 : u 77 < 6
    · exact st_of V (wu_note V.2.1 h6 (by omega) h2) (ex_note V.1 V.2.1 h6 (by omega) h2) (fun q' J hJ => ex_noteM hJ V.2.1 h6 (by omega) h2)
    · have h66 : u 77 = 6 := by have := wu_nt V.2.1; omega
      exact st_ref (k := 2) (by omega) V (ev_noteF V.1 V.2.1 h66 (by omega) h2) (fun J hJ => ev_noteFM hJ V.2.1 h66 (by omega) h2)
  · exact st_ref (k := 0) (by omega) V (ev_noteX V.1 V.2.1 _ _ hb) (fun J hJ => ev_noteXM hJ V.2.1 _ _ hb)
theorem sp_forget {q : Nat → Nat → Nat} {I : Nat → Nat → Int32} {L : Nat → Nat → Int64} {u : Nat → Nat} (V : INV q I L u)  : ST mX10_forget mX11_forget (I, L, PP q) [] := by
  exact st_of V (wu_forget V.2.1) (ex_forget V.1 V.2.1) (fun q' J hJ => ex_forgetM hJ V.2.1)
theorem RST.fr {q : Nat → Nat → Nat} {I : Nat → Nat → Int32} {L L' : Nat → Nat → Int64} (V : RST q I L) (h : L' 1 6 = L' 146 5 ∧ L' 1 7 = L' 146 6) : RST q I L' := ⟨V.1, V.2.1, V.2.2.1, V.2.2.2.1, V.2.2.2.2.1, h, V.2.2.2.2.2.2⟩
theorem sp_missed {q : Nat → Nat → Nat} {I : Nat → Nat → Int32} {L : Nat → Nat → Int64} {u : Nat → Nat} (V : INV q I L u) (v1 v2 v3 : Int32) : ST mX10_missed mX11_missed (I, L, PP q) [.int v1, .int v2, .int v3] := by
  by_cases hb : (¬ v1 < nI 0 ∧ ¬ nI 7 < v1) ∧ (¬ v2 < nI 0 ∧ ¬ nI 9999 < v2) ∧ (¬ v3 < nI 0 ∧ ¬ nI 10 < v3)
  · obtain ⟨g1, g2, g3⟩ := hb
    obtain ⟨x1, h1, rfl⟩ := vin_ex (b := 7) (by decide) g1
    obtain ⟨x2, h2, rfl⟩ := vin_ex (b := 9999) (by decide) g2
    obtain ⟨x3, h3, rfl⟩ := vin_ex (b := 10) (by decide) g3
    refine st_mk ((ev_missed V.1 V.2.1 (by omega) h2 h3).x ⟨rfl, (ev_missedM ((kpC.msB _ u I).mV V.2.2.1) V.2.1 (by omega) h2 h3).x ⟨rfl, q, _, _, u, ⟨(kpM.lM _ _).hV (hv_msb V.1 V.2.1 _) V.2.1, V.2.1, ((kpC.msB _ u I).mV V.2.2.1).lM, ((V.2.2.2.c (kpC.msB _ u I) (kpQ.rf q)).m (kpM.lM _ _)).fr ?_⟩, Or.inl rfl⟩⟩)
    simp [hz_up, va_up]
  · exact st_ref (k := 0) (by omega) V (ev_missedX V.1 V.2.1 _ _ _ hb) (fun J hJ => ev_missedXM hJ V.2.1 _ _ _ hb)
theorem RST.tx {q : Nat → Nat → Nat} {I J : Nat → Nat → Int32} {L : Nat → Nat → Int64} (V : RST q I L) {t : Nat} (T : TX J t) (e : ∀ a, a ≠ 2 → a ≠ 3 → a ≠ 146 → a ≠ 152 → J a = I a) : RST q J L := by
  obtain ⟨v1, v2, v3, v4, v5, v6, v7⟩ := V
  refine ⟨v1, v2.cong (fun a h1 h2 => e a (by omega) (by omega) (by omega) (by omega)) (e _ (by omega) (by omega) (by omega) (by omega)) (e _ (by omega) (by omega) (by omega) (by omega)) (e _ (by omega) (by omega) (by omega) (by omega)) (fun _ => rfl), v3.cong (fun a h1 h2 => e a (by omega) (by omega) (by omega) (by omega)) (e _ (by omega) (by omega) (by omega) (by omega)) (e _ (by omega) (by omega) (by omega) (by omega)) (e _ (by omega) (by omega) (by omega) (by omega)) (fun _ => rfl), ⟨t, T⟩, ?_, v6, fun i hi => by rw [e 11 (by omega) (by omega) (by omega) (by omega)]; exact v7 i hi⟩
  rw [e 1 (by omega) (by omega) (by omega) (by omega), e 151 (by omega) (by omega) (by omega) (by omega)]
  exact v5
theorem INV.tx {q : Nat → Nat → Nat} {I J : Nat → Nat → Int32} {L : Nat → Nat → Int64} {u : Nat → Nat} (V : INV q I L u) {t : Nat} (T : TX J t) (e : ∀ a, a ≠ 2 → a ≠ 3 → a ≠ 146 → a ≠ 152 → J a = I a) : INV q J L u :=
  ⟨V.1.cong V.2.1 (fun a h1 h2 => e a (by omega) (by omega) (by omega) (by omega)) (fun _ => rfl), V.2.1, V.2.2.1.cong (e _ (by omega) (by omega) (by omega) (by omega)), V.2.2.2.tx T e⟩
theorem sp_type {q : Nat → Nat → Nat} {I : Nat → Nat → Int32} {L : Nat → Nat → Int64} {u : Nat → Nat} (V : INV q I L u) (v1 : Int32) : ST mX10_type mX11_type (I, L, PP q) [.int v1] := by
  by_cases hb : (¬ v1 < nI 0 ∧ ¬ nI 127 < v1)
  · have g1 := hb
    obtain ⟨x1, h1, rfl⟩ := vin_ex (b := 127) (by decide) g1
    obtain ⟨t, t1, t2, t3, t4⟩ := V.2.2.2.2.2.2.1
    by_cases h150 : t < 150
    · refine st_mk ((ev_type t2 h150 (by omega)).x ⟨rfl, (ev_typeM (t := t) (by simp (disch := omega) only [hz_up_ne]; exact t3) h150 (by omega)).x ⟨rfl, q, _, L, u, V.tx (t := t + 1) ⟨by omega, ?_, ?_, fun j hj => ?_⟩ (fun a h1 h2 h3 h4 => ?_), Or.inl rfl⟩⟩)
      · simp (disch := omega) only [hz_up_ne, hz_up_eq, va_up_self]
      · simp (disch := omega) only [hz_up_ne, hz_up_eq, va_up_self]
      · by_cases e : j = t
        · subst e
          exact ⟨x1, by omega, by simp (disch := omega) only [hz_up_ne, hz_up_eq, va_up_self], by simp (disch := omega) only [hz_up_ne, hz_up_eq, va_up_self]⟩
        · obtain ⟨c, c1, c2, c3⟩ := t4 j (by omega)
          exact ⟨c, c1, by simp (disch := omega) only [hz_up_ne, hz_up_eq, va_up_ne]; exact c2, by simp (disch := omega) only [hz_up_ne, hz_up_eq, va_up_ne]; exact c3⟩
      · simp (disch := omega) only [hz_up_ne]
    · have h9 : t = 150 := by omega
      have h := V.2.2.2.cnt (k := 2) (by omega)
      refine st_mk ((ev_typeF t2 h9 (by omega)).x ⟨rfl, (ev_typeFM (t := t) (by simp (disch := omega) only [hz_up_ne]; exact t3) h9 (by omega)).x ⟨rfl, q, _, L, u, ⟨?_, V.2.1, ?_, ?_⟩, Or.inl rfl⟩⟩)
      · exact V.1.cong V.2.1 (fun a h1 h2 => by simp (disch := omega) only [hz_up_ne]) (fun _ => rfl)
      · exact V.2.2.1.cong (by simp (disch := omega) only [hz_up_ne])
      · have e : hz_up I 1 10 (I 1 10 + nI 1) 151 2 = I 151 2 := by rw [hz_up_ne _ _ _ _ (by omega)]
        rw [e]
        exact h
  · exact st_ref (k := 0) (by omega) V (ev_typeX V.1 V.2.1 _ hb) (fun J hJ => ev_typeXM hJ V.2.1 _ hb)
theorem sp_clear {q : Nat → Nat → Nat} {I : Nat → Nat → Int32} {L : Nat → Nat → Int64} {u : Nat → Nat} (V : INV q I L u)  : ST mX10_clear mX11_clear (I, L, PP q) [] := by
  obtain ⟨t, t1, t2, t3, t4⟩ := V.2.2.2.2.2.2.1
  have hm := ev_clearM (I := hz_up I 2 1 (nI 0)) (L := L) (q := q)
  rw [show hz_up I 2 1 (nI 0) 146 7 = I 2 1 by rw [hz_up_ne _ _ _ _ (by omega), t2, t3]] at hm
  refine st_mk (ev_clear.x ⟨rfl, hm.x ⟨rfl, q, _, L, u, V.tx (t := 0) ⟨by omega, ?_, ?_, fun j hj => absurd hj (by omega)⟩ (fun a h1 h2 h3 h4 => ?_), Or.inl rfl⟩⟩)
  · simp (disch := omega) only [hz_up_ne, hz_up_eq, va_up_self]
  · simp (disch := omega) only [hz_up_ne, hz_up_eq, va_up_self]
  · simp (disch := omega) only [hz_up_ne]
theorem img_0 {q : Nat → Nat → Nat} {I : Nat → Nat → Int32} {L : Nat → Nat → Int64} {u : Nat → Nat} (V : INV q I L u) : INV q (hz_up (hz_sa (hz_up (cpm 79 12 q I) 145 0 (nI 1)) 149 (va_cpy (hz_up (cpm 79 12 q I) 145 0 (nI 1) 147) (hz_up (cpm 79 12 q I) 145 0 (nI 1) 149) 0 0 181)) 150 0 (nI 1)) L u := by
  have hp := V.1.2.2.2.2.2.2.2.2.2.1
  have hi := V.2.2.2.2.1.1
  obtain ⟨v1, v2, v3, v4⟩ := V
  obtain ⟨r1, r2, r3, ⟨t, r4⟩, r5, r6, r7⟩ := v4
  have eo : ∀ a, a < 79 ∨ 79 + 32 < a → a ≠ 145 → a ≠ 149 → a ≠ 150 → (hz_up (hz_sa (hz_up (cpm 79 12 q I) 145 0 (nI 1)) 149 (va_cpy (hz_up (cpm 79 12 q I) 145 0 (nI 1) 147) (hz_up (cpm 79 12 q I) 145 0 (nI 1) 149) 0 0 181)) 150 0 (nI 1)) a = I a := fun a h1 h2 h3 h4 => by rw [hz_up_ne _ _ _ _ h4, sa_ne _ _ _ h3, hz_up_ne _ _ _ _ h2, cpm_o hi h1]
  have eh : ∀ a, 79 ≤ a → a ≤ 79 + 32 → (hz_up (hz_sa (hz_up (cpm 79 12 q I) 145 0 (nI 1)) 149 (va_cpy (hz_up (cpm 79 12 q I) 145 0 (nI 1) 147) (hz_up (cpm 79 12 q I) 145 0 (nI 1) 149) 0 0 181)) 150 0 (nI 1)) a = cpm 79 12 q I a := fun a h1 h2 => by rw [hz_up_ne _ _ _ _ (by omega), sa_ne _ _ _ (by omega), hz_up_ne _ _ _ _ (by omega)]
  have e145 : ∀ k, k ≠ 0 → (hz_up (hz_sa (hz_up (cpm 79 12 q I) 145 0 (nI 1)) 149 (va_cpy (hz_up (cpm 79 12 q I) 145 0 (nI 1) 147) (hz_up (cpm 79 12 q I) 145 0 (nI 1) 149) 0 0 181)) 150 0 (nI 1)) 145 k = I 145 k := fun k hk => by rw [hz_up_ne _ _ _ _ (by omega), sa_ne _ _ _ (by omega), hz_up_nk _ _ _ _ hk, cpm_o hi (by omega)]
  have e150 : ∀ k, k ≠ 0 → (hz_up (hz_sa (hz_up (cpm 79 12 q I) 145 0 (nI 1)) 149 (va_cpy (hz_up (cpm 79 12 q I) 145 0 (nI 1) 147) (hz_up (cpm 79 12 q I) 145 0 (nI 1) 149) 0 0 181)) 150 0 (nI 1)) 150 k = I 150 k := fun k hk => by rw [hz_up_nk _ _ _ _ hk, sa_ne _ _ _ (by omega), hz_up_ne _ _ _ _ (by omega), cpm_o hi (by omega)]
  have e149 : ∀ j, j < 0 ∨ 181 ≤ j → (hz_up (hz_sa (hz_up (cpm 79 12 q I) 145 0 (nI 1)) 149 (va_cpy (hz_up (cpm 79 12 q I) 145 0 (nI 1) 147) (hz_up (cpm 79 12 q I) 145 0 (nI 1) 149) 0 0 181)) 150 0 (nI 1)) 149 j = I 149 j := fun j hj => by
    rw [hz_up_ne _ _ _ _ (by omega), sa_eq]
    unfold va_cpy
    rw [if_neg (by omega), hz_up_ne _ _ _ _ (by omega), cpm_o hi (by omega)]
  have en : ∀ j, j < 181 → (hz_up (hz_sa (hz_up (cpm 79 12 q I) 145 0 (nI 1)) 149 (va_cpy (hz_up (cpm 79 12 q I) 145 0 (nI 1) 147) (hz_up (cpm 79 12 q I) 145 0 (nI 1) 149) 0 0 181)) 150 0 (nI 1)) 149 (0 + j) = I 147 j := fun j hj => by
    rw [hz_up_ne _ _ _ _ (by omega), sa_eq]
    unfold va_cpy
    rw [if_pos (by omega), hz_up_ne _ _ _ _ (by omega), cpm_o hi (by omega), show 0 + (0 + j - 0) = j by omega]
  have hvn : HV 79 q (hz_up (hz_sa (hz_up (cpm 79 12 q I) 145 0 (nI 1)) 149 (va_cpy (hz_up (cpm 79 12 q I) 145 0 (nI 1) 147) (hz_up (cpm 79 12 q I) 145 0 (nI 1) 149) 0 0 181)) 150 0 (nI 1)) u := (hv_cpm (by omega) hi v1 v2).cong v2 eh (fun _ => rfl)
  have me : IM 0 79 q (hz_up (hz_sa (hz_up (cpm 79 12 q I) 145 0 (nI 1)) 149 (va_cpy (hz_up (cpm 79 12 q I) 145 0 (nI 1) 147) (hz_up (cpm 79 12 q I) 145 0 (nI 1) 149) 0 0 181)) 150 0 (nI 1)) := ⟨hi, hv_m9 hvn, by rw [hz_up_ne _ _ _ _ (by omega), sa_ne _ _ _ (by omega), hz_up_self, hz_up_self], Or.inr ⟨by rw [hz_up_ne _ _ _ _ (by omega), sa_ne _ _ _ (by omega), hz_up_self]; exact hz_n1, u, hvn, v2, fun j hj => by
    rw [show 181 * 0 + j = 0 + j by omega, en j hj]; exact v3 j hj⟩⟩
  have ot : IM 1 112 q (hz_up (hz_sa (hz_up (cpm 79 12 q I) 145 0 (nI 1)) 149 (va_cpy (hz_up (cpm 79 12 q I) 145 0 (nI 1) 147) (hz_up (cpm 79 12 q I) 145 0 (nI 1) 149) 0 0 181)) 150 0 (nI 1)) := by
    obtain ⟨o1, o2, o3, o4⟩ := r3
    refine ⟨o1, by rw [eo 112 (by omega) (by omega) (by omega) (by omega)]; exact o2, by rw [e145 1 (by omega), e150 1 (by omega)]; exact o3, ?_⟩
    rw [e145 1 (by omega)]
    rcases o4 with o4 | ⟨o4, wv, o5, o6, o7⟩
    · exact Or.inl o4
    · exact Or.inr ⟨o4, wv, o5.cong o6 (fun a h1 h2 => eo a (by omega) (by omega) (by omega) (by omega)) (fun _ => rfl), o6, fun j hj => by rw [e149 _ (by omega)]; exact o7 j hj⟩
  exact ⟨v1.cong v2 (fun a h1 h2 => eo a (by omega) (by omega) (by omega) (by omega)) (fun _ => rfl), v2, v3.cong (eo _ (by omega) (by omega) (by omega) (by omega)), r1, me, ot, ⟨t, r4.cong (by rw [eo 2 (by omega) (by omega) (by omega) (by omega)]) (by rw [eo 146 (by omega) (by omega) (by omega) (by omega)]) (eo _ (by omega) (by omega) (by omega) (by omega)) (eo _ (by omega) (by omega) (by omega) (by omega))⟩, by rw [eo 1 (by omega) (by omega) (by omega) (by omega), eo 151 (by omega) (by omega) (by omega) (by omega)]; exact r5, r6, fun k hk => by rw [eo 11 (by omega) (by omega) (by omega) (by omega)]; exact r7 k hk⟩
theorem img_1 {q : Nat → Nat → Nat} {I : Nat → Nat → Int32} {L : Nat → Nat → Int64} {u : Nat → Nat} (V : INV q I L u) : INV q (hz_up (hz_sa (hz_up (cpm 112 12 q I) 145 1 (nI 1)) 149 (va_cpy (hz_up (cpm 112 12 q I) 145 1 (nI 1) 147) (hz_up (cpm 112 12 q I) 145 1 (nI 1) 149) 0 181 181)) 150 1 (nI 1)) L u := by
  have hp := V.1.2.2.2.2.2.2.2.2.2.1
  have hi := V.2.2.2.2.2.1.1
  obtain ⟨v1, v2, v3, v4⟩ := V
  obtain ⟨r1, r2, r3, ⟨t, r4⟩, r5, r6, r7⟩ := v4
  have eo : ∀ a, a < 112 ∨ 112 + 32 < a → a ≠ 145 → a ≠ 149 → a ≠ 150 → (hz_up (hz_sa (hz_up (cpm 112 12 q I) 145 1 (nI 1)) 149 (va_cpy (hz_up (cpm 112 12 q I) 145 1 (nI 1) 147) (hz_up (cpm 112 12 q I) 145 1 (nI 1) 149) 0 181 181)) 150 1 (nI 1)) a = I a := fun a h1 h2 h3 h4 => by rw [hz_up_ne _ _ _ _ h4, sa_ne _ _ _ h3, hz_up_ne _ _ _ _ h2, cpm_o hi h1]
  have eh : ∀ a, 112 ≤ a → a ≤ 112 + 32 → (hz_up (hz_sa (hz_up (cpm 112 12 q I) 145 1 (nI 1)) 149 (va_cpy (hz_up (cpm 112 12 q I) 145 1 (nI 1) 147) (hz_up (cpm 112 12 q I) 145 1 (nI 1) 149) 0 181 181)) 150 1 (nI 1)) a = cpm 112 12 q I a := fun a h1 h2 => by rw [hz_up_ne _ _ _ _ (by omega), sa_ne _ _ _ (by omega), hz_up_ne _ _ _ _ (by omega)]
  have e145 : ∀ k, k ≠ 1 → (hz_up (hz_sa (hz_up (cpm 112 12 q I) 145 1 (nI 1)) 149 (va_cpy (hz_up (cpm 112 12 q I) 145 1 (nI 1) 147) (hz_up (cpm 112 12 q I) 145 1 (nI 1) 149) 0 181 181)) 150 1 (nI 1)) 145 k = I 145 k := fun k hk => by rw [hz_up_ne _ _ _ _ (by omega), sa_ne _ _ _ (by omega), hz_up_nk _ _ _ _ hk, cpm_o hi (by omega)]
  have e150 : ∀ k, k ≠ 1 → (hz_up (hz_sa (hz_up (cpm 112 12 q I) 145 1 (nI 1)) 149 (va_cpy (hz_up (cpm 112 12 q I) 145 1 (nI 1) 147) (hz_up (cpm 112 12 q I) 145 1 (nI 1) 149) 0 181 181)) 150 1 (nI 1)) 150 k = I 150 k := fun k hk => by rw [hz_up_nk _ _ _ _ hk, sa_ne _ _ _ (by omega), hz_up_ne _ _ _ _ (by omega), cpm_o hi (by omega)]
  have e149 : ∀ j, j < 181 ∨ 362 ≤ j → (hz_up (hz_sa (hz_up (cpm 112 12 q I) 145 1 (nI 1)) 149 (va_cpy (hz_up (cpm 112 12 q I) 145 1 (nI 1) 147) (hz_up (cpm 112 12 q I) 145 1 (nI 1) 149) 0 181 181)) 150 1 (nI 1)) 149 j = I 149 j := fun j hj => by
    rw [hz_up_ne _ _ _ _ (by omega), sa_eq]
    unfold va_cpy
    rw [if_neg (by omega), hz_up_ne _ _ _ _ (by omega), cpm_o hi (by omega)]
  have en : ∀ j, j < 181 → (hz_up (hz_sa (hz_up (cpm 112 12 q I) 145 1 (nI 1)) 149 (va_cpy (hz_up (cpm 112 12 q I) 145 1 (nI 1) 147) (hz_up (cpm 112 12 q I) 145 1 (nI 1) 149) 0 181 181)) 150 1 (nI 1)) 149 (181 + j) = I 147 j := fun j hj => by
    rw [hz_up_ne _ _ _ _ (by omega), sa_eq]
    unfold va_cpy
    rw [if_pos (by omega), hz_up_ne _ _ _ _ (by omega), cpm_o hi (by omega), show 0 + (181 + j - 181) = j by omega]
  have hvn : HV 112 q (hz_up (hz_sa (hz_up (cpm 112 12 q I) 145 1 (nI 1)) 149 (va_cpy (hz_up (cpm 112 12 q I) 145 1 (nI 1) 147) (hz_up (cpm 112 12 q I) 145 1 (nI 1) 149) 0 181 181)) 150 1 (nI 1)) u := (hv_cpm (by omega) hi v1 v2).cong v2 eh (fun _ => rfl)
  have me : IM 1 112 q (hz_up (hz_sa (hz_up (cpm 112 12 q I) 145 1 (nI 1)) 149 (va_cpy (hz_up (cpm 112 12 q I) 145 1 (nI 1) 147) (hz_up (cpm 112 12 q I) 145 1 (nI 1) 149) 0 181 181)) 150 1 (nI 1)) := ⟨hi, hv_m9 hvn, by rw [hz_up_ne _ _ _ _ (by omega), sa_ne _ _ _ (by omega), hz_up_self, hz_up_self], Or.inr ⟨by rw [hz_up_ne _ _ _ _ (by omega), sa_ne _ _ _ (by omega), hz_up_self]; exact hz_n1, u, hvn, v2, fun j hj => by
    rw [show 181 * 1 + j = 181 + j by omega, en j hj]; exact v3 j hj⟩⟩
  have ot : IM 0 79 q (hz_up (hz_sa (hz_up (cpm 112 12 q I) 145 1 (nI 1)) 149 (va_cpy (hz_up (cpm 112 12 q I) 145 1 (nI 1) 147) (hz_up (cpm 112 12 q I) 145 1 (nI 1) 149) 0 181 181)) 150 1 (nI 1)) := by
    obtain ⟨o1, o2, o3, o4⟩ := r2
    refine ⟨o1, by rw [eo 79 (by omega) (by omega) (by omega) (by omega)]; exact o2, by rw [e145 0 (by omega), e150 0 (by omega)]; exact o3, ?_⟩
    rw [e145 0 (by omega)]
    rcases o4 with o4 | ⟨o4, wv, o5, o6, o7⟩
    · exact Or.inl o4
    · exact Or.inr ⟨o4, wv, o5.cong o6 (fun a h1 h2 => eo a (by omega) (by omega) (by omega) (by omega)) (fun _ => rfl), o6, fun j hj => by rw [e149 _ (by omega)]; exact o7 j hj⟩
  exact ⟨v1.cong v2 (fun a h1 h2 => eo a (by omega) (by omega) (by omega) (by omega)) (fun _ => rfl), v2, v3.cong (eo _ (by omega) (by omega) (by omega) (by omega)), r1, ot, me, ⟨t, r4.cong (by rw [eo 2 (by omega) (by omega) (by omega) (by omega)]) (by rw [eo 146 (by omega) (by omega) (by omega) (by omega)]) (eo _ (by omega) (by omega) (by omega) (by omega)) (eo _ (by omega) (by omega) (by omega) (by omega))⟩, by rw [eo 1 (by omega) (by omega) (by omega) (by omega), eo 151 (by omega) (by omega) (by omega) (by omega)]; exact r5, r6, fun k hk => by rw [eo 11 (by omega) (by omega) (by omega) (by omega)]; exact r7 k hk⟩
theorem sp_image {q : Nat → Nat → Nat} {I : Nat → Nat → Int32} {L : Nat → Nat → Int64} {u : Nat → Nat} (V : INV q I L u) (v1 : Int32) : ST mX10_image mX11_image (I, L, PP q) [.int v1] := by
  by_cases hb : (¬ v1 < nI 0 ∧ ¬ nI 1 < v1)
  · have g1 := hb
    obtain ⟨x1, h1, rfl⟩ := vin_ex (b := 1) (by decide) g1
    rcases (show x1 = 0 ∨ x1 = 1 by omega) with rfl | rfl
    · exact st_mk ((ev_image0 V.1.2.2.2.2.2.2.2.2.2.1 V.2.2.2.2.1.1 (hv_m9 V.1)).x ⟨rfl, ev_image0M.x ⟨rfl, q, _, L, u, img_0 V, Or.inl rfl⟩⟩)
    · exact st_mk ((ev_image1 V.1.2.2.2.2.2.2.2.2.2.1 V.2.2.2.2.2.1.1 (hv_m9 V.1)).x ⟨rfl, ev_image1M.x ⟨rfl, q, _, L, u, img_1 V, Or.inl rfl⟩⟩)
  · exact st_ref (k := 0) (by omega) V (ev_imageX V.1 V.2.1 _ hb) (fun J hJ => ev_imageXM hJ V.2.1 _ hb)
theorem sp_from {q : Nat → Nat → Nat} {I : Nat → Nat → Int32} {L : Nat → Nat → Int64} {u : Nat → Nat} (V : INV q I L u) (v1 : Int32) : ST mX10_from mX11_from (I, L, PP q) [.int v1] := by
  by_cases hb : (¬ v1 < nI 0 ∧ ¬ nI 1 < v1)
  · have g1 := hb
    obtain ⟨x1, h1, rfl⟩ := vin_ex (b := 1) (by decide) g1
    rcases (show x1 = 0 ∨ x1 = 1 by omega) with rfl | rfl
    · obtain ⟨o1, o2, o3, o4⟩ := V.2.2.2.2.1
      rcases o4 with o4 | ⟨o4, wv, o5, o6, o7⟩
      · have hm : ∀ J, J 150 0 = 0 → hz_Ev mX11_from TT NN (J, L, PP q) [.ref 146, .int (nI 0)] 0 0 (some (.int (-3 : Int32))) TT NN (hz_up J 151 1 (J 151 1 + nI 1), L, PP q) := fun J hJ => ev_fromN0M hJ
        have h := V.2.2.2.cnt (k := 1) (by omega)
        refine st_mk ((ev_fromN0 o4).x ⟨rfl, (hm _ (by rw [hz_up_ne _ _ _ _ (by omega), ← o3]; exact o4)).x ⟨rfl, q, _, L, u, ⟨?_, V.2.1, ?_, ?_⟩, Or.inl rfl⟩⟩)
        · exact V.1.cong V.2.1 (fun a h1 h2 => by simp (disch := omega) only [hz_up_ne]) (fun _ => rfl)
        · exact V.2.2.1.cong (by simp (disch := omega) only [hz_up_ne])
        · have e : hz_up I 1 9 (I 1 9 + nI 1) 151 1 = I 151 1 := by rw [hz_up_ne _ _ _ _ (by omega)]
          rw [e]
          exact h
      · have hp := V.1.2.2.2.2.2.2.2.2.2.1
        refine st_of2 V o6 ((ev_from0 hp o1 o2 o4).x ⟨q, _, rfl, rfl, hv_cpm (by omega) hp o5 o6, ⟨fun a ha => cpm_o hp (by omega), fun k _ => by rw [cpm_o hp (by omega)]⟩, kpQ.rf q⟩) (fun q' J hJ hK => (ev_from0M (by rw [hK.1 150 (by omega), ← o3]; exact o4)).x ⟨_, rfl, rfl, fun j hj => ?_, kpM.sa _ _ (by omega)⟩)
        rw [sa_eq]
        unfold va_cpy
        rw [if_pos (by omega), hK.1 149 (by omega), show j - 0 = j by omega]
        exact o7 j hj
    · obtain ⟨o1, o2, o3, o4⟩ := V.2.2.2.2.2.1
      rcases o4 with o4 | ⟨o4, wv, o5, o6, o7⟩
      · have hm : ∀ J, J 150 1 = 0 → hz_Ev mX11_from TT NN (J, L, PP q) [.ref 146, .int (nI 1)] 0 0 (some (.int (-3 : Int32))) TT NN (hz_up J 151 1 (J 151 1 + nI 1), L, PP q) := fun J hJ => ev_fromN1M hJ
        have h := V.2.2.2.cnt (k := 1) (by omega)
        refine st_mk ((ev_fromN1 o4).x ⟨rfl, (hm _ (by rw [hz_up_ne _ _ _ _ (by omega), ← o3]; exact o4)).x ⟨rfl, q, _, L, u, ⟨?_, V.2.1, ?_, ?_⟩, Or.inl rfl⟩⟩)
        · exact V.1.cong V.2.1 (fun a h1 h2 => by simp (disch := omega) only [hz_up_ne]) (fun _ => rfl)
        · exact V.2.2.1.cong (by simp (disch := omega) only [hz_up_ne])
        · have e : hz_up I 1 9 (I 1 9 + nI 1) 151 1 = I 151 1 := by rw [hz_up_ne _ _ _ _ (by omega)]
          rw [e]
          exact h
      · have hp := V.1.2.2.2.2.2.2.2.2.2.1
        refine st_of2 V o6 ((ev_from1 hp o1 o2 o4).x ⟨q, _, rfl, rfl, hv_cpm (by omega) hp o5 o6, ⟨fun a ha => cpm_o hp (by omega), fun k _ => by rw [cpm_o hp (by omega)]⟩, kpQ.rf q⟩) (fun q' J hJ hK => (ev_from1M (by rw [hK.1 150 (by omega), ← o3]; exact o4)).x ⟨_, rfl, rfl, fun j hj => ?_, kpM.sa _ _ (by omega)⟩)
        rw [sa_eq]
        unfold va_cpy
        rw [if_pos (by omega), hK.1 149 (by omega), show j - 0 = j by omega]
        exact o7 j hj
  · exact st_ref (k := 0) (by omega) V (ev_fromX V.1 V.2.1 _ hb) (fun J hJ => ev_fromXM hJ V.2.1 _ hb)

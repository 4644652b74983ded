theorem cpy_in {I : Nat → Nat → Int32} {a0 a n k : Nat} (h : k < n) : cpy I a0 a n a k = I a0 k := by
  simp only [cpy, va_cpy, if_true]
  rw [if_pos (by omega), show 0 + (k - 0) = k by omega]
def cp6 (h g : Nat) (I : Nat → Nat → Int32) : Nat → Nat → Int32 := cpy (cpy (cpy (cpy (cpy (cpy I (g + 1) (h + 1) 64) (g + 2) (h + 2) 64) (g + 3) (h + 3) 6) (g + 4) (h + 4) 6) (g + 5) (h + 5) 6) (g + 6) (h + 6) 6
def cpZ (h g : Nat) (q : Nat → Nat → Nat) (I : Nat → Nat → Int32) : Nat → Nat → Int32 := pcp q (h + 9) (g + 9) (mcp (cp6 h g I) (h + 7) (g + 7)) 8
def cpm (h g : Nat) (q : Nat → Nat → Nat) (I : Nat → Nat → Int32) : Nat → Nat → Int32 := hz_up (hz_up (hz_up (hz_up (cpZ h g q I) h 9 (cpZ h g q I g 9)) h 10 (cpZ h g q I g 10)) h 11 (cpZ h g q I g 11)) h 12 (cpZ h g q I g 12)
theorem pcp_in {q : Nat → Nat → Nat} {h g : Nat} (hd : h + 32 < g ∨ g + 32 < h) (H : HP h q) (K : HP g q) (J : Nat → Nat → Int32) : ∀ n, n ≤ 8 → ∀ i, i < n → (∀ k, 1 ≤ k → k ≤ 4 → pcp q (h + 9) (g + 9) J n (q (h + 9) i) k = J (q (g + 9) i) k) ∧ ∀ k, k < 6 → pcp q (h + 9) (g + 9) J n (q (h + 9) i + 1) k = J (q (g + 9) i + 1) k := by
  intro n
  induction n with
  | zero => intro _ i hi; omega
  | succ n ih =>
    intro hn i hi
    obtain ⟨j1, hj1, e1⟩ := H.1 n (by omega)
    obtain ⟨j2, hj2, e2⟩ := K.1 n (by omega)
    have ho : ∀ b, b < h + 17 ∨ h + 32 < b → pcp q (h + 9) (g + 9) J n b = J b := fun b hb => pcp_o fun i' hi' => by
      obtain ⟨j3, hj3, e3⟩ := H.1 i' (by omega)
      omega
    show (∀ k, 1 ≤ k → k ≤ 4 → mcp (pcp q (h + 9) (g + 9) J n) (q (h + 9) n) (q (g + 9) n) (q (h + 9) i) k = _) ∧ ∀ k, k < 6 → mcp (pcp q (h + 9) (g + 9) J n) (q (h + 9) n) (q (g + 9) n) (q (h + 9) i + 1) k = _
    by_cases e : i = n
    · subst e
      refine ⟨fun k h1 h2 => ?_, fun k hk => ?_⟩
      · rw [mcp_m (by omega) h1 h2, ho _ (by omega)]
      · rw [mcp_b hk, ho _ (by omega)]
    · obtain ⟨j3, hj3, e3⟩ := H.1 i (by omega)
      have hne : q (h + 9) i ≠ q (h + 9) n := fun z => e (H.2 i n (by omega) (by omega) z)
      obtain ⟨a1, a2⟩ := ih (by omega) i (by omega)
      refine ⟨fun k h1 h2 => ?_, fun k hk => ?_⟩
      · rw [mcp_o hne (by omega)]; exact a1 k h1 h2
      · rw [mcp_o (by omega) (by omega)]; exact a2 k hk
section IMG
variable {q : Nat → Nat → Nat} {h g : Nat} {I : Nat → Nat → Int32}
theorem cpZ_o (H : HP h q) {b : Nat} (hb : b < h + 1 ∨ h + 32 < b) : cpZ h g q I b = I b := by
  unfold cpZ
  rw [pcp_o (fun i hi => by obtain ⟨j, hj, e⟩ := H.1 i hi; omega), mcp_o (by omega) (by omega)]
  simp (disch := omega) only [cp6, cpy_b]
theorem cpm_o (H : HP h q) {b : Nat} (hb : b < h ∨ h + 32 < b) : cpm h g q I b = I b := by
  unfold cpm
  rw [hz_up_ne _ _ _ _ (by omega), hz_up_ne _ _ _ _ (by omega), hz_up_ne _ _ _ _ (by omega), hz_up_ne _ _ _ _ (by omega), cpZ_o H (by omega)]
theorem cpm_z {b : Nat} (hb : b ≠ h) : cpm h g q I b = cpZ h g q I b := by
  unfold cpm
  rw [hz_up_ne _ _ _ _ hb, hz_up_ne _ _ _ _ hb, hz_up_ne _ _ _ _ hb, hz_up_ne _ _ _ _ hb]
theorem cpZ_6 (H : HP h q) {b : Nat} (hb : b ≤ h + 6) : cpZ h g q I b = cp6 h g I b := by
  unfold cpZ
  rw [pcp_o (fun i hi => by obtain ⟨j, hj, e⟩ := H.1 i hi; omega), mcp_o (by omega) (by omega)]
theorem cp6_g {b : Nat} (hb : b < h + 1 ∨ h + 6 < b) : cp6 h g I b = I b := by
  simp (disch := omega) only [cp6, cpy_b]
theorem hv_cpm {u : Nat → Nat} (hd : h + 32 < g ∨ g + 32 < h) (H : HP h q) (V : HV g q I u) (U : WU u) : HV h q (cpm h g q I) u := by
  obtain ⟨v1, v2, v3, v4, v5, v6, v7, v8, v9, v10, v11⟩ := V
  have hal := wu_al U
  have hnt := wu_nt U
  have hg : ∀ k, cpZ h g q I g k = I g k := fun k => by rw [cpZ_o H (by omega)]
  have c9 : cpm h g q I h 9 = I g 9 := by unfold cpm; rw [hz_up_nk _ _ _ _ (by omega), hz_up_nk _ _ _ _ (by omega), hz_up_nk _ _ _ _ (by omega), hz_up_self, hg]
  have c10 : cpm h g q I h 10 = I g 10 := by unfold cpm; rw [hz_up_nk _ _ _ _ (by omega), hz_up_nk _ _ _ _ (by omega), hz_up_self, hg]
  have c11 : cpm h g q I h 11 = I g 11 := by unfold cpm; rw [hz_up_nk _ _ _ _ (by omega), hz_up_self, hg]
  have c12 : cpm h g q I h 12 = I g 12 := by unfold cpm; rw [hz_up_self, hg]
  refine ⟨fun j hj => ?_, c10.trans v2, fun k hk => ?_, fun k hk => ?_, c11.trans v5, fun i hi => ?_, ?_, c12.trans v8, fun i hi => ?_, H, ?_⟩
  · rw [cpm_z (by omega), cpZ_6 H (by omega), ← v1 j hj]; simp (disch := omega) only [cp6, cpy_b, cpy_in]
  · rw [cpm_z (by omega), cpZ_6 H (by omega), ← v3 k hk]; simp (disch := omega) only [cp6, cpy_b, cpy_in]
  · rw [cpm_z (by omega), cpZ_6 H (by omega), ← v4 k hk]; simp (disch := omega) only [cp6, cpy_b, cpy_in]
  · rw [cpm_z (by omega), cpZ_6 H (by omega), cpm_z (by omega), cpZ_6 H (by omega)]
    have h9 := v6 i hi
    rw [← h9.1, ← h9.2]
    refine ⟨?_, ?_⟩
    · simp (disch := omega) only [cp6, cpy_b, cpy_in]
    · simp (disch := omega) only [cp6, cpy_b, cpy_in]
  · refine HN.to v7 hal (fun k h1 h2 => ?_) (fun k hk => ?_) (fun t ht => rfl)
    · rw [cpm_z (by omega)]
      unfold cpZ
      rw [pcp_o (fun i hi => by obtain ⟨j, hj, e⟩ := H.1 i hi; omega), mcp_m (by omega) h1 h2, cp6_g (by omega)]
    · rw [cpm_z (by omega)]
      unfold cpZ
      rw [pcp_o (fun i hi => by obtain ⟨j, hj, e⟩ := H.1 i hi; omega), mcp_b hk, cp6_g (by omega)]
  · have hi8 : i < 8 := Nat.lt_of_lt_of_le hi (wu_un U)
    obtain ⟨a1, a2⟩ := pcp_in hd H v10 (mcp (cp6 h g I) (h + 7) (g + 7)) 8 (Nat.le_refl _) i hi8
    obtain ⟨j, hj, e⟩ := H.1 i hi8
    obtain ⟨j2, hj2, e2⟩ := v10.1 i hi8
    refine HN.to (v9 i hi) hal (fun k h1 h2 => ?_) (fun k hk => ?_) (fun t ht => rfl)
    · rw [cpm_z (by omega)]
      exact (a1 k h1 h2).trans (by rw [mcp_o (by omega) (by omega), cp6_g (by omega)])
    · rw [cpm_z (by omega)]
      exact (a2 k hk).trans (by rw [mcp_o (by omega) (by omega), cp6_g (by omega)])
  · rw [c9]
    rcases v11 with v | ⟨v, w⟩
    · exact Or.inl v
    · refine Or.inr ⟨v, fun a b ha hb => ?_⟩
      rw [cpm_z (by omega), cpZ_6 H (by omega), ← w a b ha hb]
      simp (disch := omega) only [cp6, cpy_b, cpy_in]
end IMG
theorem hv_m9 {h : Nat} {q : Nat → Nat → Nat} {I : Nat → Nat → Int32} {u : Nat → Nat} (V : HV h q I u) : I h 9 = 0 ∨ I h 9 = 1 := by
  rcases V.2.2.2.2.2.2.2.2.2.2 with h | h
  · exact Or.inl h
  · exact Or.inr h.1
theorem ev_cp12_79 {I : Nat → Nat → Int32} {L : Nat → Nat → Int64} {q : Nat → Nat → Nat} (H : HP 12 q) (K : HP 79 q) (hm : I 79 9 = 0 ∨ I 79 9 = 1) : hz_Ev mX2_copyFrom TT NN (I, L, PP q) [.ref 12, .ref 79] 0 0 none TT NN (cpm 12 79 q I, L, PP q) := ev_copy12_79 H K hm
theorem ev_cp12_112 {I : Nat → Nat → Int32} {L : Nat → Nat → Int64} {q : Nat → Nat → Nat} (H : HP 12 q) (K : HP 112 q) (hm : I 112 9 = 0 ∨ I 112 9 = 1) : hz_Ev mX2_copyFrom TT NN (I, L, PP q) [.ref 12, .ref 112] 0 0 none TT NN (cpm 12 112 q I, L, PP q) := ev_copy12_112 H K hm
theorem ev_cp79_12 {I : Nat → Nat → Int32} {L : Nat → Nat → Int64} {q : Nat → Nat → Nat} (H : HP 79 q) (K : HP 12 q) (hm : I 12 9 = 0 ∨ I 12 9 = 1) : hz_Ev mX2_copyFrom TT NN (I, L, PP q) [.ref 79, .ref 12] 0 0 none TT NN (cpm 79 12 q I, L, PP q) := ev_copy79_12 H K hm
theorem ev_cp112_12 {I : Nat → Nat → Int32} {L : Nat → Nat → Int64} {q : Nat → Nat → Nat} (H : HP 112 q) (K : HP 12 q) (hm : I 12 9 = 0 ∨ I 12 9 = 1) : hz_Ev mX2_copyFrom TT NN (I, L, PP q) [.ref 112, .ref 12] 0 0 none TT NN (cpm 112 12 q I, L, PP q) := ev_copy112_12 H K hm
set_option maxHeartbeats 4000000 in
set_option maxRecDepth 100000 in
theorem ev_image0 {I : Nat → Nat → Int32} {L : Nat → Nat → Int64} {q : Nat → Nat → Nat} (hp : HP 12 q) (hi : HP 79 q) (hm : I 12 9 = 0 ∨ I 12 9 = 1) : hz_Ev mX10_image TT NN (I, L, PP q) [.ref 1, .int (nI 0)] 0 0 (some (.int (nI 1))) TT NN (hz_up (cpm 79 12 q I) 145 0 (nI 1), L, PP q) := by
  refine hz_Ev.intro (ls := [some (.ref 1), some (.int (nI 0))]) (by decide +kernel) rfl (Nat.le_of_ble_eq_true rfl) (fun X C Z _ => ?_)
  refine hz_iload_n (pc := 0) C dX10_image_0 rfl ?_
  refine hz_iconst (pc := 1) C (v := nI 0) dX10_image_1 (by decide +kernel) ?_
  refine hz_iconst (pc := 2) C (v := nI 1) dX10_image_2 (by decide +kernel) ?_
  refine hz_callSs (pc := 3) C (as := [.int (nI 0), .int (nI 0), .int (nI 1)]) (st := []) (ev_within _ (nI 0) (nI 0) (nI 1)) (hz_new0 _ _) fyX10_within fsX10_59 rfl dX10_image_3 rfl rfl (Nat.le_of_ble_eq_true rfl) (by decide) (hz_cap0 _) ?_
  refine hz_ifb_ne (pc := 6) C (tgt := 14) dX10_image_6 rfl (fun _ => ?_) (fun cq => absurd (by decide +kernel) cq)
  refine hz_aload_n (pc := 14) C dX10_image_14 rfl ?_
  refine hz_getP (pc := 15) C (v := 78) ffX10_33 dX10_image_15 hT1 hA1 rfl (hP1_2 q) (by decide) ?_
  refine hz_iload_n (pc := 18) C dX10_image_18 rfl ?_
  refine hz_aald (pc := 19) C (v := 79) (j := 0) dX10_image_19 hT78 (Or.inl rfl) hA78 rfl (by decide) (by decide) (hP78_0 q) (by decide) ?_
  refine hz_aload_n (pc := 20) C dX10_image_20 rfl ?_
  refine hz_getP (pc := 21) C (v := 12) ffX10_26 dX10_image_21 hT1 hA1 rfl (hP1_4 q) (by decide) ?_
  refine hz_callVv (pc := 24) C (as := [.ref 12]) (st := []) (ev_cp79_12 hi hp hm) (hz_new0 _ _) fyX2_copyFrom fvX10_264 rfl dX10_image_24 hT79 rfl rfl hA79 rfl rfl (Nat.le_of_ble_eq_true rfl) (by decide) (hz_cap0 _) ?_
  refine hz_aload_n (pc := 27) C dX10_image_27 rfl ?_
  refine hz_getP (pc := 28) C (v := 145) ffX10_37 dX10_image_28 hT1 hA1 rfl (hP1_3 q) (by decide) ?_
  refine hz_iload_n (pc := 31) C dX10_image_31 rfl ?_
  refine hz_iconst (pc := 32) C (v := nI 1) dX10_image_32 (by decide +kernel) ?_
  refine hz_zast (pc := 33) C (v := nI 1) (j := 0) (M' := (hz_up (cpm 79 12 q I) 145 0 (nI 1), L, PP q)) dX10_image_33 hT145 hA145 rfl (by decide) (by decide) (by decide +kernel) rfl ?_
  refine hz_iconst (pc := 34) C (v := nI 1) dX10_image_34 (by decide +kernel) ?_
  exact hz_iret C Z rfl dX10_image_35 rfl rfl
set_option maxHeartbeats 4000000 in
set_option maxRecDepth 100000 in
theorem ev_from0 {I : Nat → Nat → Int32} {L : Nat → Nat → Int64} {q : Nat → Nat → Nat} (hp : HP 12 q) (hi : HP 79 q) (hm : I 79 9 = 0 ∨ I 79 9 = 1) (hk : I 145 0 = 1) : hz_Ev mX10_from TT NN (I, L, PP q) [.ref 1, .int (nI 0)] 0 0 (some (.int (nI 1))) TT NN (cpm 12 79 q I, L, PP q) := by
  refine hz_Ev.intro (ls := [some (.ref 1), some (.int (nI 0))]) (by decide +kernel) rfl (Nat.le_of_ble_eq_true rfl) (fun X C Z _ => ?_)
  refine hz_iload_n (pc := 0) C dX10_from_0 rfl ?_
  refine hz_iconst (pc := 1) C (v := nI 0) dX10_from_1 (by decide +kernel) ?_
  refine hz_iconst (pc := 2) C (v := nI 1) dX10_from_2 (by decide +kernel) ?_
  refine hz_callSs (pc := 3) C (as := [.int (nI 0), .int (nI 0), .int (nI 1)]) (st := []) (ev_within _ (nI 0) (nI 0) (nI 1)) (hz_new0 _ _) fyX10_within fsX10_59 rfl dX10_from_3 rfl rfl (Nat.le_of_ble_eq_true rfl) (by decide) (hz_cap0 _) ?_
  refine hz_ifb_ne (pc := 6) C (tgt := 14) dX10_from_6 rfl (fun _ => ?_) (fun cq => absurd (by decide +kernel) cq)
  refine hz_aload_n (pc := 14) C dX10_from_14 rfl ?_
  refine hz_getP (pc := 15) C (v := 145) ffX10_37 dX10_from_15 hT1 hA1 rfl (hP1_3 q) (by decide) ?_
  refine hz_iload_n (pc := 18) C dX10_from_18 rfl ?_
  refine hz_zald (pc := 19) C (v := 1) (j := 0) dX10_from_19 hT145 hA145 rfl (by decide) (by decide) hk ?_
  refine hz_if_ne (pc := 20) C (tgt := 28) dX10_from_20 rfl (fun _ => ?_) (fun cq => absurd cq (by decide))
  refine hz_aload_n (pc := 28) C dX10_from_28 rfl ?_
  refine hz_getP (pc := 29) C (v := 12) ffX10_26 dX10_from_29 hT1 hA1 rfl (hP1_4 q) (by decide) ?_
  refine hz_aload_n (pc := 32) C dX10_from_32 rfl ?_
  refine hz_getP (pc := 33) C (v := 78) ffX10_33 dX10_from_33 hT1 hA1 rfl (hP1_2 q) (by decide) ?_
  refine hz_iload_n (pc := 36) C dX10_from_36 rfl ?_
  refine hz_aald (pc := 37) C (v := 79) (j := 0) dX10_from_37 hT78 (Or.inl rfl) hA78 rfl (by decide) (by decide) (hP78_0 q) (by decide) ?_
  refine hz_callVv (pc := 38) C (as := [.ref 79]) (st := []) (ev_cp12_79 hp hi hm) (hz_new0 _ _) fyX2_copyFrom fvX10_264 rfl dX10_from_38 hT12 rfl rfl hA12 rfl rfl (Nat.le_of_ble_eq_true rfl) (by decide) (hz_cap0 _) ?_
  refine hz_iconst (pc := 41) C (v := nI 1) dX10_from_41 (by decide +kernel) ?_
  exact hz_iret C Z rfl dX10_from_42 rfl rfl
set_option maxHeartbeats 4000000 in
set_option maxRecDepth 100000 in
theorem ev_fromN0 {I : Nat → Nat → Int32} {L : Nat → Nat → Int64} {q : Nat → Nat → Nat} (hk : I 145 0 = 0) : hz_Ev mX10_from TT NN (I, L, PP q) [.ref 1, .int (nI 0)] 0 0 (some (.int (-3 : Int32))) TT NN (hz_up I 1 9 ((I 1 9) + (nI 1)), L, PP q) := by
  refine hz_Ev.intro (ls := [some (.ref 1), some (.int (nI 0))]) (by decide +kernel) rfl (Nat.le_of_ble_eq_true rfl) (fun X C Z _ => ?_)
  refine hz_iload_n (pc := 0) C dX10_from_0 rfl ?_
  refine hz_iconst (pc := 1) C (v := nI 0) dX10_from_1 (by decide +kernel) ?_
  refine hz_iconst (pc := 2) C (v := nI 1) dX10_from_2 (by decide +kernel) ?_
  refine hz_callSs (pc := 3) C (as := [.int (nI 0), .int (nI 0), .int (nI 1)]) (st := []) (ev_within _ (nI 0) (nI 0) (nI 1)) (hz_new0 _ _) fyX10_within fsX10_59 rfl dX10_from_3 rfl rfl (Nat.le_of_ble_eq_true rfl) (by decide) (hz_cap0 _) ?_
  refine hz_ifb_ne (pc := 6) C (tgt := 14) dX10_from_6 rfl (fun _ => ?_) (fun cq => absurd (by decide +kernel) cq)
  refine hz_aload_n (pc := 14) C dX10_from_14 rfl ?_
  refine hz_getP (pc := 15) C (v := 145) ffX10_37 dX10_from_15 hT1 hA1 rfl (hP1_3 q) (by decide) ?_
  refine hz_iload_n (pc := 18) C dX10_from_18 rfl ?_
  refine hz_zald (pc := 19) C (v := 0) (j := 0) dX10_from_19 hT145 hA145 rfl (by decide) (by decide) hk ?_
  refine hz_if_ne (pc := 20) C (tgt := 28) dX10_from_20 rfl (fun cq => absurd rfl cq) (fun _ => ?_)
  refine hz_aload_n (pc := 23) C dX10_from_23 rfl ?_
  refine hz_callVs (pc := 24) C (as := []) (st := []) ev_refNo (hz_new0 _ _) fyX10_refuseNo fvX10_120 rfl dX10_from_24 hT1 rfl rfl hA1 rfl rfl (Nat.le_of_ble_eq_true rfl) (by decide) (hz_cap0 _) ?_
  exact hz_iret C Z rfl dX10_from_27 rfl rfl
set_option maxHeartbeats 4000000 in
set_option maxRecDepth 100000 in
theorem ev_image0M {I : Nat → Nat → Int32} {L : Nat → Nat → Int64} {q : Nat → Nat → Nat} : hz_Ev mX11_image TT NN (I, L, PP q) [.ref 146, .int (nI 0)] 0 0 (some (.int (nI 1))) TT NN (hz_up (hz_sa I 149 (va_cpy (I 147) (I 149) 0 0 181)) 150 0 (nI 1), L, PP q) := by
  refine hz_Ev.intro (ls := [some (.ref 146), some (.int (nI 0))]) (by decide +kernel) rfl (Nat.le_of_ble_eq_true rfl) (fun X C Z _ => ?_)
  refine hz_iload_n (pc := 0) C dX11_image_0 rfl ?_
  refine hz_iconst (pc := 1) C (v := nI 0) dX11_image_1 (by decide +kernel) ?_
  refine hz_iconst (pc := 2) C (v := nI 1) dX11_image_2 (by decide +kernel) ?_
  refine hz_callSs (pc := 3) C (as := [.int (nI 0), .int (nI 0), .int (nI 1)]) (st := []) (ev_in _ (nI 0) (nI 0) (nI 1)) (hz_new0 _ _) fyX11_in fsX11_52 rfl dX11_image_3 rfl rfl (Nat.le_of_ble_eq_true rfl) (by decide) (hz_cap0 _) ?_
  refine hz_ifb_ne (pc := 6) C (tgt := 14) dX11_image_6 rfl (fun _ => ?_) (fun cq => absurd (by decide +kernel) cq)
  refine hz_aload_n (pc := 14) C dX11_image_14 rfl ?_
  refine hz_getP (pc := 15) C (v := 147) ffX11_7 dX11_image_15 hT146 hA146 rfl (hP146_0 q) (by decide) ?_
  refine hz_iconst (pc := 18) C (v := nI 0) dX11_image_18 (by decide +kernel) ?_
  refine hz_aload_n (pc := 19) C dX11_image_19 rfl ?_
  refine hz_getP (pc := 20) C (v := 149) ffX11_16 dX11_image_20 hT146 hA146 rfl (hP146_2 q) (by decide) ?_
  refine hz_sipush (pc := 23) C (v := nI 181) dX11_image_23 (by decide +kernel) ?_
  refine hz_iload_n (pc := 26) C dX11_image_26 rfl ?_
  refine hz_imul (pc := 27) C (v := nI 0) dX11_image_27 (pk_mul _ _) ?_
  refine hz_sipush (pc := 28) C (v := nI 181) dX11_image_28 (by decide +kernel) ?_
  refine hz_callSv (pc := 31) C (as := [.ref 147, .int (nI 0), .ref 149, .int (nI 0), .int (nI 181)]) (st := []) (ev_bring147_149 (i := 0) (j := 0) (m := 181) (by decide) (by decide)) (hz_new0 _ _) fyX11_bring fsX11_135 rfl dX11_image_31 rfl rfl (Nat.le_of_ble_eq_true rfl) (by decide) (hz_cap0 _) ?_
  refine hz_aload_n (pc := 34) C dX11_image_34 rfl ?_
  refine hz_getP (pc := 35) C (v := 150) ffX11_19 dX11_image_35 hT146 hA146 rfl (hP146_3 q) (by decide) ?_
  refine hz_iload_n (pc := 38) C dX11_image_38 rfl ?_
  refine hz_iconst (pc := 39) C (v := nI 1) dX11_image_39 (by decide +kernel) ?_
  refine hz_zast (pc := 40) C (v := nI 1) (j := 0) (M' := (hz_up (hz_sa I 149 (va_cpy (I 147) (I 149) 0 0 181)) 150 0 (nI 1), L, PP q)) dX11_image_40 hT150 hA150 rfl (by decide) (by decide) (by decide +kernel) rfl ?_
  refine hz_iconst (pc := 41) C (v := nI 1) dX11_image_41 (by decide +kernel) ?_
  exact hz_iret C Z rfl dX11_image_42 rfl rfl
set_option maxHeartbeats 4000000 in
set_option maxRecDepth 100000 in
theorem ev_from0M {I : Nat → Nat → Int32} {L : Nat → Nat → Int64} {q : Nat → Nat → Nat} (hk : I 150 0 = 1) : hz_Ev mX11_from TT NN (I, L, PP q) [.ref 146, .int (nI 0)] 0 0 (some (.int (nI 1))) TT NN (hz_sa I 147 (va_cpy (I 149) (I 147) 0 0 181), L, PP q) := by
  refine hz_Ev.intro (ls := [some (.ref 146), some (.int (nI 0))]) (by decide +kernel) rfl (Nat.le_of_ble_eq_true rfl) (fun X C Z _ => ?_)
  refine hz_iload_n (pc := 0) C dX11_from_0 rfl ?_
  refine hz_iconst (pc := 1) C (v := nI 0) dX11_from_1 (by decide +kernel) ?_
  refine hz_iconst (pc := 2) C (v := nI 1) dX11_from_2 (by decide +kernel) ?_
  refine hz_callSs (pc := 3) C (as := [.int (nI 0), .int (nI 0), .int (nI 1)]) (st := []) (ev_in _ (nI 0) (nI 0) (nI 1)) (hz_new0 _ _) fyX11_in fsX11_52 rfl dX11_from_3 rfl rfl (Nat.le_of_ble_eq_true rfl) (by decide) (hz_cap0 _) ?_
  refine hz_ifb_ne (pc := 6) C (tgt := 14) dX11_from_6 rfl (fun _ => ?_) (fun cq => absurd (by decide +kernel) cq)
  refine hz_aload_n (pc := 14) C dX11_from_14 rfl ?_
  refine hz_getP (pc := 15) C (v := 150) ffX11_19 dX11_from_15 hT146 hA146 rfl (hP146_3 q) (by decide) ?_
  refine hz_iload_n (pc := 18) C dX11_from_18 rfl ?_
  refine hz_zald (pc := 19) C (v := 1) (j := 0) dX11_from_19 hT150 hA150 rfl (by decide) (by decide) hk ?_
  refine hz_if_ne (pc := 20) C (tgt := 28) dX11_from_20 rfl (fun _ => ?_) (fun cq => absurd cq (by decide))
  refine hz_aload_n (pc := 28) C dX11_from_28 rfl ?_
  refine hz_getP (pc := 29) C (v := 149) ffX11_16 dX11_from_29 hT146 hA146 rfl (hP146_2 q) (by decide) ?_
  refine hz_sipush (pc := 32) C (v := nI 181) dX11_from_32 (by decide +kernel) ?_
  refine hz_iload_n (pc := 35) C dX11_from_35 rfl ?_
  refine hz_imul (pc := 36) C (v := nI 0) dX11_from_36 (pk_mul _ _) ?_
  refine hz_aload_n (pc := 37) C dX11_from_37 rfl ?_
  refine hz_getP (pc := 38) C (v := 147) ffX11_7 dX11_from_38 hT146 hA146 rfl (hP146_0 q) (by decide) ?_
  refine hz_iconst (pc := 41) C (v := nI 0) dX11_from_41 (by decide +kernel) ?_
  refine hz_sipush (pc := 42) C (v := nI 181) dX11_from_42 (by decide +kernel) ?_
  refine hz_callSv (pc := 45) C (as := [.ref 149, .int (nI 0), .ref 147, .int (nI 0), .int (nI 181)]) (st := []) (ev_bring149_147 (i := 0) (j := 0) (m := 181) (by decide) (by decide)) (hz_new0 _ _) fyX11_bring fsX11_135 rfl dX11_from_45 rfl rfl (Nat.le_of_ble_eq_true rfl) (by decide) (hz_cap0 _) ?_
  refine hz_iconst (pc := 48) C (v := nI 1) dX11_from_48 (by decide +kernel) ?_
  exact hz_iret C Z rfl dX11_from_49 rfl rfl
set_option maxHeartbeats 4000000 in
set_option maxRecDepth 100000 in
theorem ev_fromN0M {I : Nat → Nat → Int32} {L : Nat → Nat → Int64} {q : Nat → Nat → Nat} (hk : I 150 0 = 0) : hz_Ev mX11_from TT NN (I, L, PP q) [.ref 146, .int (nI 0)] 0 0 (some (.int (-3 : Int32))) TT NN (hz_up I 151 1 ((I 151 1) + (nI 1)), L, PP q) := by
  refine hz_Ev.intro (ls := [some (.ref 146), some (.int (nI 0))]) (by decide +kernel) rfl (Nat.le_of_ble_eq_true rfl) (fun X C Z _ => ?_)
  refine hz_iload_n (pc := 0) C dX11_from_0 rfl ?_
  refine hz_iconst (pc := 1) C (v := nI 0) dX11_from_1 (by decide +kernel) ?_
  refine hz_iconst (pc := 2) C (v := nI 1) dX11_from_2 (by decide +kernel) ?_
  refine hz_callSs (pc := 3) C (as := [.int (nI 0), .int (nI 0), .int (nI 1)]) (st := []) (ev_in _ (nI 0) (nI 0) (nI 1)) (hz_new0 _ _) fyX11_in fsX11_52 rfl dX11_from_3 rfl rfl (Nat.le_of_ble_eq_true rfl) (by decide) (hz_cap0 _) ?_
  refine hz_ifb_ne (pc := 6) C (tgt := 14) dX11_from_6 rfl (fun _ => ?_) (fun cq => absurd (by decide +kernel) cq)
  refine hz_aload_n (pc := 14) C dX11_from_14 rfl ?_
  refine hz_getP (pc := 15) C (v := 150) ffX11_19 dX11_from_15 hT146 hA146 rfl (hP146_3 q) (by decide) ?_
  refine hz_iload_n (pc := 18) C dX11_from_18 rfl ?_
  refine hz_zald (pc := 19) C (v := 0) (j := 0) dX11_from_19 hT150 hA150 rfl (by decide) (by decide) hk ?_
  refine hz_if_ne (pc := 20) C (tgt := 28) dX11_from_20 rfl (fun cq => absurd rfl cq) (fun _ => ?_)
  refine hz_aload_n (pc := 23) C dX11_from_23 rfl ?_
  refine hz_callVs (pc := 24) C (as := []) (st := []) ev_no (hz_new0 _ _) fyX11_no fvX11_157 rfl dX11_from_24 hT146 rfl rfl hA146 rfl rfl (Nat.le_of_ble_eq_true rfl) (by decide) (hz_cap0 _) ?_
  exact hz_iret C Z rfl dX11_from_27 rfl rfl
set_option maxHeartbeats 4000000 in
set_option maxRecDepth 100000 in
theorem ev_image1 {I : Nat → Nat → Int32} {L : Nat → Nat → Int64} {q : Nat → Nat → Nat} (hp : HP 12 q) (hi : HP 112 q) (hm : I 12 9 = 0 ∨ I 12 9 = 1) : hz_Ev mX10_image TT NN (I, L, PP q) [.ref 1, .int (nI 1)] 0 0 (some (.int (nI 1))) TT NN (hz_up (cpm 112 12 q I) 145 1 (nI 1), L, PP q) := by
  refine hz_Ev.intro (ls := [some (.ref 1), some (.int (nI 1))]) (by decide +kernel) rfl (Nat.le_of_ble_eq_true rfl) (fun X C Z _ => ?_)
  refine hz_iload_n (pc := 0) C dX10_image_0 rfl ?_
  refine hz_iconst (pc := 1) C (v := nI 0) dX10_image_1 (by decide +kernel) ?_
  refine hz_iconst (pc := 2) C (v := nI 1) dX10_image_2 (by decide +kernel) ?_
  refine hz_callSs (pc := 3) C (as := [.int (nI 1), .int (nI 0), .int (nI 1)]) (st := []) (ev_within _ (nI 1) (nI 0) (nI 1)) (hz_new0 _ _) fyX10_within fsX10_59 rfl dX10_image_3 rfl rfl (Nat.le_of_ble_eq_true rfl) (by decide) (hz_cap0 _) ?_
  refine hz_ifb_ne (pc := 6) C (tgt := 14) dX10_image_6 rfl (fun _ => ?_) (fun cq => absurd (by decide +kernel) cq)
  refine hz_aload_n (pc := 14) C dX10_image_14 rfl ?_
  refine hz_getP (pc := 15) C (v := 78) ffX10_33 dX10_image_15 hT1 hA1 rfl (hP1_2 q) (by decide) ?_
  refine hz_iload_n (pc := 18) C dX10_image_18 rfl ?_
  refine hz_aald (pc := 19) C (v := 112) (j := 1) dX10_image_19 hT78 (Or.inl rfl) hA78 rfl (by decide) (by decide) (hP78_1 q) (by decide) ?_
  refine hz_aload_n (pc := 20) C dX10_image_20 rfl ?_
  refine hz_getP (pc := 21) C (v := 12) ffX10_26 dX10_image_21 hT1 hA1 rfl (hP1_4 q) (by decide) ?_
  refine hz_callVv (pc := 24) C (as := [.ref 12]) (st := []) (ev_cp112_12 hi hp hm) (hz_new0 _ _) fyX2_copyFrom fvX10_264 rfl dX10_image_24 hT112 rfl rfl hA112 rfl rfl (Nat.le_of_ble_eq_true rfl) (by decide) (hz_cap0 _) ?_
  refine hz_aload_n (pc := 27) C dX10_image_27 rfl ?_
  refine hz_getP (pc := 28) C (v := 145) ffX10_37 dX10_image_28 hT1 hA1 rfl (hP1_3 q) (by decide) ?_
  refine hz_iload_n (pc := 31) C dX10_image_31 rfl ?_
  refine hz_iconst (pc := 32) C (v := nI 1) dX10_image_32 (by decide +kernel) ?_
  refine hz_zast (pc := 33) C (v := nI 1) (j := 1) (M' := (hz_up (cpm 112 12 q I) 145 1 (nI 1), L, PP q)) dX10_image_33 hT145 hA145 rfl (by decide) (by decide) (by decide +kernel) rfl ?_
  refine hz_iconst (pc := 34) C (v := nI 1) dX10_image_34 (by decide +kernel) ?_
  exact hz_iret C Z rfl dX10_image_35 rfl rfl
set_option maxHeartbeats 4000000 in
set_option maxRecDepth 100000 in
theorem ev_from1 {I : Nat → Nat → Int32} {L : Nat → Nat → Int64} {q : Nat → Nat → Nat} (hp : HP 12 q) (hi : HP 112 q) (hm : I 112 9 = 0 ∨ I 112 9 = 1) (hk : I 145 1 = 1) : hz_Ev mX10_from TT NN (I, L, PP q) [.ref 1, .int (nI 1)] 0 0 (some (.int (nI 1))) TT NN (cpm 12 112 q I, L, PP q) := by
  refine hz_Ev.intro (ls := [some (.ref 1), some (.int (nI 1))]) (by decide +kernel) rfl (Nat.le_of_ble_eq_true rfl) (fun X C Z _ => ?_)
  refine hz_iload_n (pc := 0) C dX10_from_0 rfl ?_
  refine hz_iconst (pc := 1) C (v := nI 0) dX10_from_1 (by decide +kernel) ?_
  refine hz_iconst (pc := 2) C (v := nI 1) dX10_from_2 (by decide +kernel) ?_
  refine hz_callSs (pc := 3) C (as := [.int (nI 1), .int (nI 0), .int (nI 1)]) (st := []) (ev_within _ (nI 1) (nI 0) (nI 1)) (hz_new0 _ _) fyX10_within fsX10_59 rfl dX10_from_3 rfl rfl (Nat.le_of_ble_eq_true rfl) (by decide) (hz_cap0 _) ?_
  refine hz_ifb_ne (pc := 6) C (tgt := 14) dX10_from_6 rfl (fun _ => ?_) (fun cq => absurd (by decide +kernel) cq)
  refine hz_aload_n (pc := 14) C dX10_from_14 rfl ?_
  refine hz_getP (pc := 15) C (v := 145) ffX10_37 dX10_from_15 hT1 hA1 rfl (hP1_3 q) (by decide) ?_
  refine hz_iload_n (pc := 18) C dX10_from_18 rfl ?_
  refine hz_zald (pc := 19) C (v := 1) (j := 1) dX10_from_19 hT145 hA145 rfl (by decide) (by decide) hk ?_
  refine hz_if_ne (pc := 20) C (tgt := 28) dX10_from_20 rfl (fun _ => ?_) (fun cq => absurd cq (by decide))
  refine hz_aload_n (pc := 28) C dX10_from_28 rfl ?_
  refine hz_getP (pc := 29) C (v := 12) ffX10_26 dX10_from_29 hT1 hA1 rfl (hP1_4 q) (by decide) ?_
  refine hz_aload_n (pc := 32) C dX10_from_32 rfl ?_
  refine hz_getP (pc := 33) C (v := 78) ffX10_33 dX10_from_33 hT1 hA1 rfl (hP1_2 q) (by decide) ?_
  refine hz_iload_n (pc := 36) C dX10_from_36 rfl ?_
  refine hz_aald (pc := 37) C (v := 112) (j := 1) dX10_from_37 hT78 (Or.inl rfl) hA78 rfl (by decide) (by decide) (hP78_1 q) (by decide) ?_
  refine hz_callVv (pc := 38) C (as := [.ref 112]) (st := []) (ev_cp12_112 hp hi hm) (hz_new0 _ _) fyX2_copyFrom fvX10_264 rfl dX10_from_38 hT12 rfl rfl hA12 rfl rfl (Nat.le_of_ble_eq_true rfl) (by decide) (hz_cap0 _) ?_
  refine hz_iconst (pc := 41) C (v := nI 1) dX10_from_41 (by decide +kernel) ?_
  exact hz_iret C Z rfl dX10_from_42 rfl rfl
set_option maxHeartbeats 4000000 in
set_option maxRecDepth 100000 in
theorem ev_fromN1 {I : Nat → Nat → Int32} {L : Nat → Nat → Int64} {q : Nat → Nat → Nat} (hk : I 145 1 = 0) : hz_Ev mX10_from TT NN (I, L, PP q) [.ref 1, .int (nI 1)] 0 0 (some (.int (-3 : Int32))) TT NN (hz_up I 1 9 ((I 1 9) + (nI 1)), L, PP q) := by
  refine hz_Ev.intro (ls := [some (.ref 1), some (.int (nI 1))]) (by decide +kernel) rfl (Nat.le_of_ble_eq_true rfl) (fun X C Z _ => ?_)
  refine hz_iload_n (pc := 0) C dX10_from_0 rfl ?_
  refine hz_iconst (pc := 1) C (v := nI 0) dX10_from_1 (by decide +kernel) ?_
  refine hz_iconst (pc := 2) C (v := nI 1) dX10_from_2 (by decide +kernel) ?_
  refine hz_callSs (pc := 3) C (as := [.int (nI 1), .int (nI 0), .int (nI 1)]) (st := []) (ev_within _ (nI 1) (nI 0) (nI 1)) (hz_new0 _ _) fyX10_within fsX10_59 rfl dX10_from_3 rfl rfl (Nat.le_of_ble_eq_true rfl) (by decide) (hz_cap0 _) ?_
  refine hz_ifb_ne (pc := 6) C (tgt := 14) dX10_from_6 rfl (fun _ => ?_) (fun cq => absurd (by decide +kernel) cq)
  refine hz_aload_n (pc := 14) C dX10_from_14 rfl ?_
  refine hz_getP (pc := 15) C (v := 145) ffX10_37 dX10_from_15 hT1 hA1 rfl (hP1_3 q) (by decide) ?_
  refine hz_iload_n (pc := 18) C dX10_from_18 rfl ?_
  refine hz_zald (pc := 19) C (v := 0) (j := 1) dX10_from_19 hT145 hA145 rfl (by decide) (by decide) hk ?_
  refine hz_if_ne (pc := 20) C (tgt := 28) dX10_from_20 rfl (fun cq => absurd rfl cq) (fun _ => ?_)
  refine hz_aload_n (pc := 23) C dX10_from_23 rfl ?_
  refine hz_callVs (pc := 24) C (as := []) (st := []) ev_refNo (hz_new0 _ _) fyX10_refuseNo fvX10_120 rfl dX10_from_24 hT1 rfl rfl hA1 rfl rfl (Nat.le_of_ble_eq_true rfl) (by decide) (hz_cap0 _) ?_
  exact hz_iret C Z rfl dX10_from_27 rfl rfl
set_option maxHeartbeats 4000000 in
set_option maxRecDepth 100000 in
theorem ev_image1M {I : Nat → Nat → Int32} {L : Nat → Nat → Int64} {q : Nat → Nat → Nat} : hz_Ev mX11_image TT NN (I, L, PP q) [.ref 146, .int (nI 1)] 0 0 (some (.int (nI 1))) TT NN (hz_up (hz_sa I 149 (va_cpy (I 147) (I 149) 0 181 181)) 150 1 (nI 1), L, PP q) := by
  refine hz_Ev.intro (ls := [some (.ref 146), some (.int (nI 1))]) (by decide +kernel) rfl (Nat.le_of_ble_eq_true rfl) (fun X C Z _ => ?_)
  refine hz_iload_n (pc := 0) C dX11_image_0 rfl ?_
  refine hz_iconst (pc := 1) C (v := nI 0) dX11_image_1 (by decide +kernel) ?_
  refine hz_iconst (pc := 2) C (v := nI 1) dX11_image_2 (by decide +kernel) ?_
  refine hz_callSs (pc := 3) C (as := [.int (nI 1), .int (nI 0), .int (nI 1)]) (st := []) (ev_in _ (nI 1) (nI 0) (nI 1)) (hz_new0 _ _) fyX11_in fsX11_52 rfl dX11_image_3 rfl rfl (Nat.le_of_ble_eq_true rfl) (by decide) (hz_cap0 _) ?_
  refine hz_ifb_ne (pc := 6) C (tgt := 14) dX11_image_6 rfl (fun _ => ?_) (fun cq => absurd (by decide +kernel) cq)
  refine hz_aload_n (pc := 14) C dX11_image_14 rfl ?_
  refine hz_getP (pc := 15) C (v := 147) ffX11_7 dX11_image_15 hT146 hA146 rfl (hP146_0 q) (by decide) ?_
  refine hz_iconst (pc := 18) C (v := nI 0) dX11_image_18 (by decide +kernel) ?_
  refine hz_aload_n (pc := 19) C dX11_image_19 rfl ?_
  refine hz_getP (pc := 20) C (v := 149) ffX11_16 dX11_image_20 hT146 hA146 rfl (hP146_2 q) (by decide) ?_
  refine hz_sipush (pc := 23) C (v := nI 181) dX11_image_23 (by decide +kernel) ?_
  refine hz_iload_n (pc := 26) C dX11_image_26 rfl ?_
  refine hz_imul (pc := 27) C (v := nI 181) dX11_image_27 (pk_mul _ _) ?_
  refine hz_sipush (pc := 28) C (v := nI 181) dX11_image_28 (by decide +kernel) ?_
  refine hz_callSv (pc := 31) C (as := [.ref 147, .int (nI 0), .ref 149, .int (nI 181), .int (nI 181)]) (st := []) (ev_bring147_149 (i := 0) (j := 181) (m := 181) (by decide) (by decide)) (hz_new0 _ _) fyX11_bring fsX11_135 rfl dX11_image_31 rfl rfl (Nat.le_of_ble_eq_true rfl) (by decide) (hz_cap0 _) ?_
  refine hz_aload_n (pc := 34) C dX11_image_34 rfl ?_
  refine hz_getP (pc := 35) C (v := 150) ffX11_19 dX11_image_35 hT146 hA146 rfl (hP146_3 q) (by decide) ?_
  refine hz_iload_n (pc := 38) C dX11_image_38 rfl ?_
  refine hz_iconst (pc := 39) C (v := nI 1) dX11_image_39 (by decide +kernel) ?_
  refine hz_zast (pc := 40) C (v := nI 1) (j := 1) (M' := (hz_up (hz_sa I 149 (va_cpy (I 147) (I 149) 0 181 181)) 150 1 (nI 1), L, PP q)) dX11_image_40 hT150 hA150 rfl (by decide) (by decide) (by decide +kernel) rfl ?_
  refine hz_iconst (pc := 41) C (v := nI 1) dX11_image_41 (by decide +kernel) ?_
  exact hz_iret C Z rfl dX11_image_42 rfl rfl
set_option maxHeartbeats 4000000 in
set_option maxRecDepth 100000 in
theorem ev_from1M {I : Nat → Nat → Int32} {L : Nat → Nat → Int64} {q : Nat → Nat → Nat} (hk : I 150 1 = 1) : hz_Ev mX11_from TT NN (I, L, PP q) [.ref 146, .int (nI 1)] 0 0 (some (.int (nI 1))) TT NN (hz_sa I 147 (va_cpy (I 149) (I 147) 181 0 181), L, PP q) := by
  refine hz_Ev.intro (ls := [some (.ref 146), some (.int (nI 1))]) (by decide +kernel) rfl (Nat.le_of_ble_eq_true rfl) (fun X C Z _ => ?_)
  refine hz_iload_n (pc := 0) C dX11_from_0 rfl ?_
  refine hz_iconst (pc := 1) C (v := nI 0) dX11_from_1 (by decide +kernel) ?_
  refine hz_iconst (pc := 2) C (v := nI 1) dX11_from_2 (by decide +kernel) ?_
  refine hz_callSs (pc := 3) C (as := [.int (nI 1), .int (nI 0), .int (nI 1)]) (st := []) (ev_in _ (nI 1) (nI 0) (nI 1)) (hz_new0 _ _) fyX11_in fsX11_52 rfl dX11_from_3 rfl rfl (Nat.le_of_ble_eq_true rfl) (by decide) (hz_cap0 _) ?_
  refine hz_ifb_ne (pc := 6) C (tgt := 14) dX11_from_6 rfl (fun _ => ?_) (fun cq => absurd (by decide +kernel) cq)
  refine hz_aload_n (pc := 14) C dX11_from_14 rfl ?_
  refine hz_getP (pc := 15) C (v := 150) ffX11_19 dX11_from_15 hT146 hA146 rfl (hP146_3 q) (by decide) ?_
  refine hz_iload_n (pc := 18) C dX11_from_18 rfl ?_
  refine hz_zald (pc := 19) C (v := 1) (j := 1) dX11_from_19 hT150 hA150 rfl (by decide) (by decide) hk ?_
  refine hz_if_ne (pc := 20) C (tgt := 28) dX11_from_20 rfl (fun _ => ?_) (fun cq => absurd cq (by decide))
  refine hz_aload_n (pc := 28) C dX11_from_28 rfl ?_
  refine hz_getP (pc := 29) C (v := 149) ffX11_16 dX11_from_29 hT146 hA146 rfl (hP146_2 q) (by decide) ?_
  refine hz_sipush (pc := 32) C (v := nI 181) dX11_from_32 (by decide +kernel) ?_
  refine hz_iload_n (pc := 35) C dX11_from_35 rfl ?_
  refine hz_imul (pc := 36) C (v := nI 181) dX11_from_36 (pk_mul _ _) ?_
  refine hz_aload_n (pc := 37) C dX11_from_37 rfl ?_
  refine hz_getP (pc := 38) C (v := 147) ffX11_7 dX11_from_38 hT146 hA146 rfl (hP146_0 q) (by decide) ?_
  refine hz_iconst (pc := 41) C (v := nI 0) dX11_from_41 (by decide +kernel) ?_
  refine hz_sipush (pc := 42) C (v := nI 181) dX11_from_42 (by decide +kernel) ?_
  refine hz_callSv (pc := 45) C (as := [.ref 149, .int (nI 181), .ref 147, .int (nI 0), .int (nI 181)]) (st := []) (ev_bring149_147 (i := 181) (j := 0) (m := 181) (by decide) (by decide)) (hz_new0 _ _) fyX11_bring fsX11_135 rfl dX11_from_45 rfl rfl (Nat.le_of_ble_eq_true rfl) (by decide) (hz_cap0 _) ?_
  refine hz_iconst (pc := 48) C (v := nI 1) dX11_from_48 (by decide +kernel) ?_
  exact hz_iret C Z rfl dX11_from_49 rfl rfl
set_option maxHeartbeats 4000000 in
set_option maxRecDepth 100000 in
theorem ev_fromN1M {I : Nat → Nat → Int32} {L : Nat → Nat → Int64} {q : Nat → Nat → Nat} (hk : I 150 1 = 0) : hz_Ev mX11_from TT NN (I, L, PP q) [.ref 146, .int (nI 1)] 0 0 (some (.int (-3 : Int32))) TT NN (hz_up I 151 1 ((I 151 1) + (nI 1)), L, PP q) := by
  refine hz_Ev.intro (ls := [some (.ref 146), some (.int (nI 1))]) (by decide +kernel) rfl (Nat.le_of_ble_eq_true rfl) (fun X C Z _ => ?_)
  refine hz_iload_n (pc := 0) C dX11_from_0 rfl ?_
  refine hz_iconst (pc := 1) C (v := nI 0) dX11_from_1 (by decide +kernel) ?_
  refine hz_iconst (pc := 2) C (v := nI 1) dX11_from_2 (by decide +kernel) ?_
  refine hz_callSs (pc := 3) C (as := [.int (nI 1), .int (nI 0), .int (nI 1)]) (st := []) (ev_in _ (nI 1) (nI 0) (nI 1)) (hz_new0 _ _) fyX11_in fsX11_52 rfl dX11_from_3 rfl rfl (Nat.le_of_ble_eq_true rfl) (by decide) (hz_cap0 _) ?_
  refine hz_ifb_ne (pc := 6) C (tgt := 14) dX11_from_6 rfl (fun _ => ?_) (fun cq => absurd (by decide +kernel) cq)
  refine hz_aload_n (pc := 14) C dX11_from_14 rfl ?_
  refine hz_getP (pc := 15) C (v := 150) ffX11_19 dX11_from_15 hT146 hA146 rfl (hP146_3 q) (by decide) ?_
  refine hz_iload_n (pc := 18) C dX11_from_18 rfl ?_
  refine hz_zald (pc := 19) C (v := 0) (j := 1) dX11_from_19 hT150 hA150 rfl (by decide) (by decide) hk ?_
  refine hz_if_ne (pc := 20) C (tgt := 28) dX11_from_20 rfl (fun cq => absurd rfl cq) (fun _ => ?_)
  refine hz_aload_n (pc := 23) C dX11_from_23 rfl ?_
  refine hz_callVs (pc := 24) C (as := []) (st := []) ev_no (hz_new0 _ _) fyX11_no fvX11_157 rfl dX11_from_24 hT146 rfl rfl hA146 rfl rfl (Nat.le_of_ble_eq_true rfl) (by decide) (hz_cap0 _) ?_
  exact hz_iret C Z rfl dX11_from_27 rfl rfl

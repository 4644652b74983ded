/-- the alarms that come into room r as k does -/
def sm (u : Nat → Nat) (r k o : Nat) : Bool := decide (en u r o = en u r k)
def al (u : Nat → Nat) (r k : Nat) : Nat := bsum (sm u r k) (u 64)
def k58 (I J : Nat → Nat → Int32) : Prop := ∀ a, a ≠ 5 → a ≠ 8 → a ≠ 12 → a ≠ 14 → J a = I a
def lOA (q : Nat → Nat → Nat) (I : Nat → Nat → Int32) (u : Nat → Nat) (r : Nat) (J : Nat → Nat → Int32) : Prop := k58 I J ∧ HV 12 q J u ∧ ∀ r', r' < r → ∀ k', k' < u 64 → J 5 (r' * 6 + k') = nI (al u r' k')
def lMA (q : Nat → Nat → Nat) (I : Nat → Nat → Int32) (u : Nat → Nat) (r k : Nat) (J : Nat → Nat → Int32) : Prop := lOA q I u r J ∧ ∀ k', k' < k → J 5 (r * 6 + k') = nI (bsum (sm u r k') k) ∧ J 8 k' = nI (en u r k') - 1
def lIA (q : Nat → Nat → Nat) (I : Nat → Nat → Int32) (u : Nat → Nat) (r k i : Nat) (J : Nat → Nat → Int32) : Prop := lOA q I u r J ∧ (∀ k', k' < k → J 5 (r * 6 + k') = nI (bsum (sm u r k') (if k' < i then k + 1 else k)) ∧ J 8 k' = nI (en u r k') - 1) ∧ J 5 (r * 6 + k) = nI (2 ^ k + bsum (sm u r k) i) ∧ J 8 k = nI (en u r k) - 1
theorem bsh {k : Nat} (hk : k < 6) : nI 1 <<< (nI k &&& 31) = nI (2 ^ k) := by
  have h : ∀ k, k < 6 → nI 1 <<< (nI k &&& 31) = nI (2 ^ k) := by decide +kernel
  exact h k hk
theorem bor_2 {k i : Nat} (hk : k < 6) (hi : i < k) (f : Nat → Bool) : nI (2 ^ k + bsum f i) ||| (nI 1 <<< (nI i &&& 31)) = nI (2 ^ k + (bsum f i + 2 ^ i)) := by
  have h : ∀ k, k < 6 → ∀ i, i < k → ∀ d, d < 2 ^ i → nI (2 ^ k + d) ||| (nI 1 <<< (nI i &&& 31)) = nI (2 ^ k + (d + 2 ^ i)) := by decide +kernel
  exact h k hk i hi _ (bsum_lt f i)
theorem lOA.up {q : Nat → Nat → Nat} {I J : Nat → Nat → Int32} {u : Nat → Nat} (U : WU u) {r j : Nat} {x : Int32} (h : lOA q I u r J) (hj : r * 6 ≤ j) : lOA q I u r (hz_up J 5 j x) := by
  have hal := wu_al U
  refine ⟨fun a h1 h2 h3 h4 => (hz_up_ne _ _ _ _ h1).trans (h.1 a h1 h2 h3 h4), h.2.1.cong U (fun a h1 h2 => hz_up_ne _ _ _ _ (by omega)) (fun _ => rfl), fun r' hr' k' hk' => ?_⟩
  rw [hz_up_nk _ _ _ _ (by omega)]
  exact h.2.2 r' hr' k' hk'
theorem lOA.up8 {q : Nat → Nat → Nat} {I J : Nat → Nat → Int32} {u : Nat → Nat} (U : WU u) {r j : Nat} {x : Int32} (h : lOA q I u r J) : lOA q I u r (hz_up J 8 j x) := by
  refine ⟨fun a h1 h2 h3 h4 => (hz_up_ne _ _ _ _ h2).trans (h.1 a h1 h2 h3 h4), h.2.1.cong U (fun a h1 h2 => hz_up_ne _ _ _ _ (by omega)) (fun _ => rfl), fun r' hr' k' hk' => ?_⟩
  rw [hz_up_ne _ _ _ _ (by omega)]
  exact h.2.2 r' hr' k' hk'
theorem lOA.ms {q : Nat → Nat → Nat} {I J : Nat → Nat → Int32} {u : Nat → Nat} (U : WU u) {r : Nat} (h : lOA q I u r J) : lOA q I u r (ms u J) := by
  refine ⟨fun a h1 h2 h3 h4 => (ms_at u J h3 h4).trans (h.1 a h1 h2 h3 h4), hv_ms h.2.1 U, fun r' hr' k' hk' => ?_⟩
  rw [ms_at u J (by omega) (by omega)]
  exact h.2.2 r' hr' k' hk'
/-- the next alarm begins -/
theorem lIA.ini {q : Nat → Nat → Nat} {I J : Nat → Nat → Int32} {u : Nat → Nat} (U : WU u) {r k : Nat} (h : lMA q I u r k J) : lIA q I u r k 0 (hz_up (ms u (hz_up J 5 ((r * 6) + k) (nI (2 ^ k)))) 8 k (nI (en u r k) - 1)) := by
  have e5 : ∀ j, hz_up (ms u (hz_up J 5 ((r * 6) + k) (nI (2 ^ k)))) 8 k (nI (en u r k) - 1) 5 j = hz_up J 5 ((r * 6) + k) (nI (2 ^ k)) 5 j := fun j => by rw [hz_up_ne _ _ _ _ (by omega), ms_at u _ (by omega) (by omega)]
  have e8 : ∀ j, j ≠ k → hz_up (ms u (hz_up J 5 ((r * 6) + k) (nI (2 ^ k)))) 8 k (nI (en u r k) - 1) 8 j = J 8 j := fun j hj => by rw [hz_up_nk _ _ _ _ hj, ms_at u _ (by omega) (by omega), hz_up_ne _ _ _ _ (by omega)]
  refine ⟨((h.1.up U (by omega)).ms U).up8 U, fun k' hk' => ?_, ?_, hz_up_self _ _ _ _⟩
  · rw [e5, hz_up_nk _ _ _ _ (by omega), e8 _ (by omega), if_neg (by omega)]
    exact h.2 k' hk'
  · rw [e5, hz_up_self]; rfl
theorem lIA.no {q : Nat → Nat → Nat} {I J : Nat → Nat → Int32} {u : Nat → Nat} {r k i : Nat} (hr : r < 8) (h : lIA q I u r k i J) (hi : i < k) (c : ¬ nI (en u r i) - 1 = nI (en u r k) - 1) : lIA q I u r k (i + 1) J := by
  have hne : ¬ en u r i = en u r k := fun z => c (by rw [z])
  refine ⟨h.1, fun k' hk' => ?_, ?_, h.2.2.2⟩
  · by_cases e : k' = i
    · subst e
      have h9 := h.2.1 k' hk'
      rw [if_neg (by omega)] at h9
      rw [if_pos (by omega), bsum_f (f := sm u r k') (n := k) (by simp only [sm, decide_eq_true_eq]; exact fun z => hne z.symm)]
      exact h9
    · have h9 := h.2.1 k' hk'
      by_cases e2 : k' < i
      · rw [if_pos e2] at h9; rw [if_pos (by omega)]; exact h9
      · rw [if_neg e2] at h9; rw [if_neg (by omega)]; exact h9
  · rw [bsum_f (f := sm u r k) (n := i) (by simp only [sm, decide_eq_true_eq]; exact hne)]
    exact h.2.2.1
theorem lIA.yes {q : Nat → Nat → Nat} {I J : Nat → Nat → Int32} {u : Nat → Nat} (U : WU u) {r k i : Nat} (hr : r < 8) (hk : k < 6) (h : lIA q I u r k i J) (hi : i < k) (c : nI (en u r i) - 1 = nI (en u r k) - 1) : lIA q I u r k (i + 1) (hz_up (hz_up J 5 ((r * 6) + k) (nI (2 ^ k + (bsum (sm u r k) i + 2 ^ i)))) 5 ((r * 6) + i) (nI (bsum (sm u r i) k + 2 ^ k))) := by
  have heq : en u r i = en u r k := (en_eq (en_le u hr) (en_le u hr)).mp c
  refine ⟨(h.1.up U (by omega)).up U (by omega), fun k' hk' => ?_, ?_, ?_⟩
  · have h9 := h.2.1 k' hk'
    by_cases e : k' = i
    · subst e
      rw [hz_up_self, if_pos (by omega), bsum_t (f := sm u r k') (n := k) (by simp only [sm, decide_eq_true_eq]; exact heq.symm), hz_up_ne _ _ _ _ (by omega), hz_up_ne _ _ _ _ (by omega)]
      exact ⟨rfl, h9.2⟩
    · rw [hz_up_nk _ _ _ _ (by omega), hz_up_nk _ _ _ _ (by omega), hz_up_ne _ _ _ _ (by omega), hz_up_ne _ _ _ _ (by omega)]
      by_cases e2 : k' < i
      · rw [if_pos e2] at h9; rw [if_pos (by omega)]; exact h9
      · rw [if_neg e2] at h9; rw [if_neg (by omega)]; exact h9
  · rw [hz_up_nk _ _ _ _ (by omega), hz_up_self, bsum_t (f := sm u r k) (n := i) (by simp only [sm, decide_eq_true_eq]; exact heq)]
  · rw [hz_up_ne _ _ _ _ (by omega), hz_up_ne _ _ _ _ (by omega)]; exact h.2.2.2
theorem lIA.fin {q : Nat → Nat → Nat} {I J : Nat → Nat → Int32} {u : Nat → Nat} {r k : Nat} (h : lIA q I u r k k J) : lMA q I u r (k + 1) J := by
  refine ⟨h.1, fun k' hk' => ?_⟩
  by_cases e : k' = k
  · subst e
    refine ⟨?_, h.2.2.2⟩
    rw [h.2.2.1, bsum_t (f := sm u r k') (n := k') (by simp [sm]), Nat.add_comm]
  · have h9 := h.2.1 k' (by omega)
    rw [if_pos (by omega)] at h9
    exact h9
set_option maxHeartbeats 4000000 in
set_option maxRecDepth 100000 in
theorem lp_laI {X : hz_X} (C : hz_C X mX7_learnAlike) {I : Nat → Nat → Int32} {L : Nat → Nat → Int64} {q : Nat → Nat → Nat} {u : Nat → Nat} (U : WU u) {r k : Nat} (hr : r < 8) (hk : k < u 64) (kk : ∀ J, lMA q I u r (k + 1) J → hz_G X TT NN (J, L, PP q) 0 0 111 [some (.ref 4), some (.ref 12), some (.int (nI r)), some (.int (nI k)), some (.int (nI k))] []) : ∀ (n i : Nat) (J : Nat → Nat → Int32), i + n = k → lIA q I u r k i J → hz_G X TT NN (J, L, PP q) 0 0 47 [some (.ref 4), some (.ref 12), some (.int (nI r)), some (.int (nI k)), some (.int (nI i))] [] := by
  intro n
  induction n with
  | zero =>
    intro i J hi hJ
    obtain rfl : k = i := by omega
    have hal := wu_al U
    refine hz_iload (pc := 47) C dX7_learnAlike_47 rfl ?_
    refine hz_iload_n (pc := 49) C dX7_learnAlike_49 rfl ?_
    refine hz_ic_ge (pc := 50) C (tgt := 111) dX7_learnAlike_50 rfl (fun _ => ?_) (fun cq => absurd (nI_le (by omega) (by omega)) cq)
    exact kk J hJ.fin
  | succ n ih =>
    intro i J hi hJ
    have hal := wu_al U
    refine hz_iload (pc := 47) C dX7_learnAlike_47 rfl ?_
    refine hz_iload_n (pc := 49) C dX7_learnAlike_49 rfl ?_
    refine hz_ic_ge (pc := 50) C (tgt := 111) dX7_learnAlike_50 rfl (fun cq => absurd cq (nI_ge (by omega) (by omega))) (fun _ => ?_)
    refine hz_aload_n (pc := 53) C dX7_learnAlike_53 rfl ?_
    refine hz_getP (pc := 54) C (v := 8) ffX7_21 dX7_learnAlike_54 hT4 hA4 rfl (hP4_3 q) (by decide) ?_
    refine hz_iload (pc := 57) C dX7_learnAlike_57 rfl ?_
    refine hz_iald (pc := 59) C (v := nI (en u r i) - 1) (j := i) dX7_learnAlike_59 hT8 hA8 rfl (by omega) (by decide) (hJ.2.1 i (by omega)).2 ?_
    refine hz_aload_n (pc := 60) C dX7_learnAlike_60 rfl ?_
    refine hz_getP (pc := 61) C (v := 8) ffX7_21 dX7_learnAlike_61 hT4 hA4 rfl (hP4_3 q) (by decide) ?_
    refine hz_iload_n (pc := 64) C dX7_learnAlike_64 rfl ?_
    refine hz_iald (pc := 65) C (v := nI (en u r k) - 1) (j := k) dX7_learnAlike_65 hT8 hA8 rfl (by omega) (by decide) hJ.2.2.2 ?_
    refine hz_ic_ne (pc := 66) C (tgt := 105) dX7_learnAlike_66 rfl (fun c1 => ?_) (fun c1 => ?_)
    · refine hz_iinc (pc := 105) C (v := nI (i + 1)) (ls' := [some (.ref 4), some (.ref 12), some (.int (nI r)), some (.int (nI k)), some (.int (nI (i + 1)))]) dX7_learnAlike_105 rfl (nI_add _ 1) rfl ?_
      refine hz_goto (pc := 108) C (tgt := 47) dX7_learnAlike_108 rfl ?_
      exact ih (i + 1) J (by omega) (hJ.no hr (by omega) c1)
    · refine hz_aload_n (pc := 69) C dX7_learnAlike_69 rfl ?_
      refine hz_getP (pc := 70) C (v := 5) ffX7_9 dX7_learnAlike_70 hT4 hA4 rfl (hP4_0 q) (by decide) ?_
      refine hz_iload_n (pc := 73) C dX7_learnAlike_73 rfl ?_
      refine hz_bipush (pc := 74) C (v := nI 6) dX7_learnAlike_74 (by decide +kernel) ?_
      refine hz_imul (pc := 76) C (v := nI (r * 6)) dX7_learnAlike_76 (pk_mul _ _) ?_
      refine hz_iload_n (pc := 77) C dX7_learnAlike_77 rfl ?_
      refine hz_iadd (pc := 78) C (v := nI ((r * 6) + k)) dX7_learnAlike_78 (nI_add _ _) ?_
      refine hz_dup2 (pc := 79) C dX7_learnAlike_79 rfl rfl ?_
      refine hz_iald (pc := 80) C (v := nI (2 ^ k + bsum (sm u r k) i)) (j := (r * 6) + k) dX7_learnAlike_80 hT5 hA5 rfl (by omega) (by decide) hJ.2.2.1 ?_
      refine hz_iconst (pc := 81) C (v := nI 1) dX7_learnAlike_81 (by decide +kernel) ?_
      refine hz_iload (pc := 82) C dX7_learnAlike_82 rfl ?_
      refine hz_ishl (pc := 84) C dX7_learnAlike_84 rfl ?_
      refine hz_ior (pc := 85) C dX7_learnAlike_85 rfl ?_
      refine hz_iast (pc := 86) C (v := nI (2 ^ k + (bsum (sm u r k) i + 2 ^ i))) (j := (r * 6) + k) (M' := (hz_up J 5 ((r * 6) + k) (nI (2 ^ k + (bsum (sm u r k) i + 2 ^ i))), L, PP q)) dX7_learnAlike_86 hT5 hA5 rfl (by omega) (by decide) (bor_2 (by omega) (by omega) _) rfl ?_
      refine hz_aload_n (pc := 87) C dX7_learnAlike_87 rfl ?_
      refine hz_getP (pc := 88) C (v := 5) ffX7_9 dX7_learnAlike_88 hT4 hA4 rfl (hP4_0 q) (by decide) ?_
      refine hz_iload_n (pc := 91) C dX7_learnAlike_91 rfl ?_
      refine hz_bipush (pc := 92) C (v := nI 6) dX7_learnAlike_92 (by decide +kernel) ?_
      refine hz_imul (pc := 94) C (v := nI (r * 6)) dX7_learnAlike_94 (pk_mul _ _) ?_
      refine hz_iload (pc := 95) C dX7_learnAlike_95 rfl ?_
      refine hz_iadd (pc := 97) C (v := nI ((r * 6) + i)) dX7_learnAlike_97 (nI_add _ _) ?_
      refine hz_dup2 (pc := 98) C dX7_learnAlike_98 rfl rfl ?_
      refine hz_iald (pc := 99) C (v := nI (bsum (sm u r i) k)) (j := (r * 6) + i) dX7_learnAlike_99 hT5 hA5 rfl (by omega) (by decide) (by simp (disch := omega) only [hz_up_eq, va_up_ne]; rw [(hJ.2.1 i (by omega)).1, if_neg (by omega)]) ?_
      refine hz_iconst (pc := 100) C (v := nI 1) dX7_learnAlike_100 (by decide +kernel) ?_
      refine hz_iload_n (pc := 101) C dX7_learnAlike_101 rfl ?_
      refine hz_ishl (pc := 102) C dX7_learnAlike_102 rfl ?_
      refine hz_ior (pc := 103) C dX7_learnAlike_103 rfl ?_
      refine hz_iast (pc := 104) C (v := nI (bsum (sm u r i) k + 2 ^ k)) (j := (r * 6) + i) (M' := (hz_up (hz_up J 5 ((r * 6) + k) (nI (2 ^ k + (bsum (sm u r k) i + 2 ^ i)))) 5 ((r * 6) + i) (nI (bsum (sm u r i) k + 2 ^ k)), L, PP q)) dX7_learnAlike_104 hT5 hA5 rfl (by omega) (by decide) (bor_add (by omega) _) rfl ?_
      refine hz_iinc (pc := 105) C (v := nI (i + 1)) (ls' := [some (.ref 4), some (.ref 12), some (.int (nI r)), some (.int (nI k)), some (.int (nI (i + 1)))]) dX7_learnAlike_105 rfl (nI_add _ 1) rfl ?_
      refine hz_goto (pc := 108) C (tgt := 47) dX7_learnAlike_108 rfl ?_
      exact ih (i + 1) _ (by omega) (hJ.yes U hr (by omega) (by omega) c1)
set_option maxHeartbeats 4000000 in
set_option maxRecDepth 100000 in
theorem lp_laM {X : hz_X} (C : hz_C X mX7_learnAlike) {I : Nat → Nat → Int32} {L : Nat → Nat → Int64} {q : Nat → Nat → Nat} {u : Nat → Nat} (U : WU u) {r : Nat} (hr : r < 8) (kk : ∀ J (w4 : Option Value), lMA q I u r (u 64) J → hz_G X TT NN (J, L, PP q) 0 0 117 [some (.ref 4), some (.ref 12), some (.int (nI r)), some (.int (nI (u 64))), w4] []) : ∀ (n k : Nat) (J : Nat → Nat → Int32) (w4 : Option Value), k + n = u 64 → lMA q I u r k J → hz_G X TT NN (J, L, PP q) 0 0 10 [some (.ref 4), some (.ref 12), some (.int (nI r)), some (.int (nI k)), w4] [] := by
  intro n
  induction n with
  | zero =>
    intro k J w4 hi hJ
    obtain rfl : u 64 = k := by omega
    have hal := wu_al U
    refine hz_iload_n (pc := 10) C dX7_learnAlike_10 rfl ?_
    refine hz_aload_n (pc := 11) C dX7_learnAlike_11 rfl ?_
    refine hz_getI (pc := 12) C (v := nI (u 64)) ffX7_33 dX7_learnAlike_12 hT12 hA12 rfl (hv_al hJ.1.2.1) ?_
    refine hz_ic_ge (pc := 15) C (tgt := 117) dX7_learnAlike_15 rfl (fun _ => ?_) (fun cq => absurd (nI_le (by omega) (by omega)) cq)
    exact kk J w4 hJ
  | succ n ih =>
    intro k J w4 hi hJ
    have hal := wu_al U
    refine hz_iload_n (pc := 10) C dX7_learnAlike_10 rfl ?_
    refine hz_aload_n (pc := 11) C dX7_learnAlike_11 rfl ?_
    refine hz_getI (pc := 12) C (v := nI (u 64)) ffX7_33 dX7_learnAlike_12 hT12 hA12 rfl (hv_al hJ.1.2.1) ?_
    refine hz_ic_ge (pc := 15) C (tgt := 117) dX7_learnAlike_15 rfl (fun cq => absurd cq (nI_ge (by omega) (by omega))) (fun _ => ?_)
    refine hz_aload_n (pc := 18) C dX7_learnAlike_18 rfl ?_
    refine hz_getP (pc := 19) C (v := 5) ffX7_9 dX7_learnAlike_19 hT4 hA4 rfl (hP4_0 q) (by decide) ?_
    refine hz_iload_n (pc := 22) C dX7_learnAlike_22 rfl ?_
    refine hz_bipush (pc := 23) C (v := nI 6) dX7_learnAlike_23 (by decide +kernel) ?_
    refine hz_imul (pc := 25) C (v := nI (r * 6)) dX7_learnAlike_25 (pk_mul _ _) ?_
    refine hz_iload_n (pc := 26) C dX7_learnAlike_26 rfl ?_
    refine hz_iadd (pc := 27) C (v := nI ((r * 6) + k)) dX7_learnAlike_27 (nI_add _ _) ?_
    refine hz_iconst (pc := 28) C (v := nI 1) dX7_learnAlike_28 (by decide +kernel) ?_
    refine hz_iload_n (pc := 29) C dX7_learnAlike_29 rfl ?_
    refine hz_ishl (pc := 30) C dX7_learnAlike_30 rfl ?_
    refine hz_iast (pc := 31) C (v := nI (2 ^ k)) (j := (r * 6) + k) (M' := (hz_up J 5 ((r * 6) + k) (nI (2 ^ k)), L, PP q)) dX7_learnAlike_31 hT5 hA5 rfl (by omega) (by decide) (bsh (by omega)) rfl ?_
    refine hz_aload_n (pc := 32) C dX7_learnAlike_32 rfl ?_
    refine hz_getP (pc := 33) C (v := 8) ffX7_21 dX7_learnAlike_33 hT4 hA4 rfl (hP4_3 q) (by decide) ?_
    refine hz_iload_n (pc := 36) C dX7_learnAlike_36 rfl ?_
    have V1 : HV 12 q (hz_up J 5 ((r * 6) + k) (nI (2 ^ k))) u := (hJ.1.up U (by omega)).2.1
    refine hz_aload_n (pc := 37) C dX7_learnAlike_37 rfl ?_
    refine hz_iload_n (pc := 38) C dX7_learnAlike_38 rfl ?_
    refine hz_iload_n (pc := 39) C dX7_learnAlike_39 rfl ?_
    refine hz_callVs (pc := 40) C (as := [.int (nI r), .int (nI k)]) (st := [.int (nI k), .ref 8]) (ev_entrance (L := L) V1 U (r := r) (k := k) hr (by omega)) (hz_new0 _ _) fyX2_entrance fvX7_39 rfl dX7_learnAlike_40 hT12 rfl rfl hA12 rfl rfl (Nat.le_of_ble_eq_true rfl) (by decide) (hz_cap0 _) ?_
    refine hz_iast (pc := 43) C (v := nI (en u r k) - 1) (j := k) (M' := (hz_up (ms u (hz_up J 5 ((r * 6) + k) (nI (2 ^ k)))) 8 k (nI (en u r k) - 1), L, PP q)) dX7_learnAlike_43 hT8 hA8 rfl (by omega) (by decide) rfl rfl ?_
    refine hz_iconst (pc := 44) C (v := nI 0) dX7_learnAlike_44 (by decide +kernel) ?_
    refine hz_istore (pc := 45) C (ls' := [some (.ref 4), some (.ref 12), some (.int (nI r)), some (.int (nI k)), some (.int (nI 0))]) dX7_learnAlike_45 (Nat.le_of_ble_eq_true rfl) rfl ?_
    refine lp_laI C U hr (by omega) (fun J hJ => ?_) k 0 _ (by omega) (lIA.ini U hJ)
    refine hz_iinc (pc := 111) C (v := nI (k + 1)) (ls' := [some (.ref 4), some (.ref 12), some (.int (nI r)), some (.int (nI (k + 1))), some (.int (nI k))]) dX7_learnAlike_111 rfl (nI_add _ 1) rfl ?_
    refine hz_goto (pc := 114) C (tgt := 10) dX7_learnAlike_114 rfl ?_
    exact ih (k + 1) J _ (by omega) hJ
theorem lMA.fin {q : Nat → Nat → Nat} {I J : Nat → Nat → Int32} {u : Nat → Nat} {r : Nat} (h : lMA q I u r (u 64) J) : lOA q I u (r + 1) J := by
  refine ⟨h.1.1, h.1.2.1, fun r' hr' k' hk' => ?_⟩
  by_cases e : r' = r
  · subst e; exact (h.2 k' hk').1
  · exact h.1.2.2 r' (by omega) k' hk'
set_option maxHeartbeats 4000000 in
set_option maxRecDepth 100000 in
theorem lp_laO {X : hz_X} (C : hz_C X mX7_learnAlike) {I : Nat → Nat → Int32} {L : Nat → Nat → Int64} {q : Nat → Nat → Nat} {u : Nat → Nat} (U : WU u) (kk : ∀ J (w3 w4 : Option Value), lOA q I u 8 J → hz_G X TT NN (J, L, PP q) 0 0 123 [some (.ref 4), some (.ref 12), some (.int (nI 8)), w3, w4] []) : ∀ (n r : Nat) (J : Nat → Nat → Int32) (w3 w4 : Option Value), r + n = 8 → lOA q I u r J → hz_G X TT NN (J, L, PP q) 0 0 2 [some (.ref 4), some (.ref 12), some (.int (nI r)), w3, w4] [] := by
  intro n
  induction n with
  | zero =>
    intro r J w3 w4 hi hJ
    obtain rfl : 8 = r := by omega
    refine hz_iload_n (pc := 2) C dX7_learnAlike_2 rfl ?_
    refine hz_bipush (pc := 3) C (v := nI 8) dX7_learnAlike_3 (by decide +kernel) ?_
    refine hz_ic_ge (pc := 5) C (tgt := 123) dX7_learnAlike_5 rfl (fun _ => ?_) (fun cq => absurd (nI_le (by omega) (by omega)) cq)
    exact kk J w3 w4 hJ
  | succ n ih =>
    intro r J w3 w4 hi hJ
    have hal := wu_al U
    refine hz_iload_n (pc := 2) C dX7_learnAlike_2 rfl ?_
    refine hz_bipush (pc := 3) C (v := nI 8) dX7_learnAlike_3 (by decide +kernel) ?_
    refine hz_ic_ge (pc := 5) C (tgt := 123) dX7_learnAlike_5 rfl (fun cq => absurd cq (nI_ge (by omega) (by omega))) (fun _ => ?_)
    refine hz_iconst (pc := 8) C (v := nI 0) dX7_learnAlike_8 (by decide +kernel) ?_
    refine hz_istore_n (pc := 9) C (ls' := [some (.ref 4), some (.ref 12), some (.int (nI r)), some (.int (nI 0)), w4]) dX7_learnAlike_9 (Nat.le_of_ble_eq_true rfl) rfl ?_
    refine lp_laM C U (by omega) (fun J w4 hJ => ?_) (u 64) 0 J _ (by omega) ⟨hJ, fun k hk => absurd hk (by omega)⟩
    refine hz_iinc (pc := 117) C (v := nI (r + 1)) (ls' := [some (.ref 4), some (.ref 12), some (.int (nI (r + 1))), some (.int (nI (u 64))), w4]) dX7_learnAlike_117 rfl (nI_add _ 1) rfl ?_
    refine hz_goto (pc := 120) C (tgt := 2) dX7_learnAlike_120 rfl ?_
    exact ih (r + 1) J _ _ (by omega) hJ.fin
set_option maxHeartbeats 4000000 in
set_option maxRecDepth 100000 in
theorem ex_learn {I : Nat → Nat → Int32} {L : Nat → Nat → Int64} {q : Nat → Nat → Nat} {u : Nat → Nat} (V : HV 12 q I u) (U : WU u) : hz_Ex mX7_learnAlike TT NN (I, L, PP q) [.ref 4, .ref 12] (hz_PI L (PP q) none (lOA q I u 8)) := by
  refine hz_Ex.intro (ls := [some (.ref 4), some (.ref 12), none, none, none]) (by decide +kernel) rfl (Nat.le_of_ble_eq_true rfl) (fun X C Z => ?_)
  refine hz_iconst (pc := 0) C (v := nI 0) dX7_learnAlike_0 (by decide +kernel) ?_
  refine hz_istore_n (pc := 1) C (ls' := [some (.ref 4), some (.ref 12), some (.int (nI 0)), none, none]) dX7_learnAlike_1 (Nat.le_of_ble_eq_true rfl) rfl ?_
  refine lp_laO C U (fun J w3 w4 hJ => ?_) 8 0 I _ _ (by omega) ⟨fun _ _ _ _ _ => rfl, V, fun r hr => absurd hr (by omega)⟩
  exact hz_vretx C Z rfl dX7_learnAlike_123 ⟨J, rfl, rfl, hJ⟩

def fT (u : Nat → Nat) (I J : Nat → Nat → Int32) (k : Nat) : Prop := (∀ a, a ≠ 4 → a ≠ 9 → J a = I a) ∧ J 4 7 = nI (csum (lo1 u) k) ∧ ∀ i, i < csum (lo1 u) k → J 9 i = nI (tgn u k i)
theorem fT.no {u : Nat → Nat} {I J : Nat → Nat → Int32} {k : Nat} (h : fT u I J k) (hl : ¬ lo1 u k = true) : fT u I J (k + 1) := by
  refine ⟨h.1, by rw [csum_f hl]; exact h.2.1, fun i hi => ?_⟩
  rw [csum_f hl] at hi
  rw [show tgn u (k + 1) = tgn u k from if_neg hl]
  exact h.2.2 i hi
theorem fT.yes {u : Nat → Nat} {I J : Nat → Nat → Int32} {k : Nat} (h : fT u I J k) (hl : lo1 u k = true) : fT u I (hz_up (hz_up J 9 (csum (lo1 u) k) (nI k)) 4 7 (nI (csum (lo1 u) k + 1))) (k + 1) := by
  refine ⟨fun a h1 h2 => by rw [hz_up_ne _ _ _ _ h1, hz_up_ne _ _ _ _ h2]; exact h.1 a h1 h2, by rw [hz_up_self, csum_t hl], fun i hi => ?_⟩
  rw [csum_t hl] at hi
  rw [show tgn u (k + 1) = va_up (tgn u k) (csum (lo1 u) k) k from if_pos hl, hz_up_ne _ _ _ _ (by omega)]
  by_cases hi2 : i = csum (lo1 u) k
  · subst hi2; rw [hz_up_self, va_up_self]
  · rw [hz_up_nk _ _ _ _ hi2, va_up_ne _ _ hi2]; exact h.2.2 i (by omega)
set_option maxHeartbeats 4000000 in
set_option maxRecDepth 100000 in
theorem lp_ft {X : hz_X} (C : hz_C X mX7_findTargets) {I : Nat → Nat → Int32} {L : Nat → Nat → Int64} {q : Nat → Nat → Nat} {u : Nat → Nat} (V : HV 12 q I u) (U : WU u) (kk : ∀ J (zzw3 zzw4 : Option Value), fT u I J (u 64) → hz_G X TT NN (J, L, PP q) 0 0 103 [some (.ref 4), some (.ref 12), some (.int (nI (u 64))), zzw3, zzw4] []) : ∀ (n k : Nat) (J : Nat → Nat → Int32) (zzw3 zzw4 : Option Value), k + n = u 64 → fT u I J k → hz_G X TT NN (J, L, PP q) 0 0 7 [some (.ref 4), some (.ref 12), some (.int (nI k)), zzw3, zzw4] [] := by
  intro n
  induction n with
  | zero =>
    intro k J zzw3 zzw4 hi hJ
    obtain rfl : u 64 = k := by omega
    have hal := wu_al U
    have VJ : HV 12 q J u := V.cong U (fun a h1 h2 => hJ.1 a (by omega) (by omega)) (fun _ => rfl)
    refine hz_iload_n (pc := 7) C dX7_findTargets_7 rfl ?_
    refine hz_aload_n (pc := 8) C dX7_findTargets_8 rfl ?_
    refine hz_getI (pc := 9) C (v := nI (u 64)) ffX7_33 dX7_findTargets_9 hT12 hA12 rfl (hv_al VJ) ?_
    refine hz_ic_ge (pc := 12) C (tgt := 103) dX7_findTargets_12 rfl (fun _ => ?_) (fun cq => absurd (nI_le (by omega) (by omega)) cq)
    exact kk J zzw3 zzw4 hJ
  | succ n ih =>
    intro k J zzw3 zzw4 hi hJ
    have hal := wu_al U
    have hcs := csum_le (lo1 u) k
    have hkd := wu_kd U (k := k) (by omega)
    have VJ : HV 12 q J u := V.cong U (fun a h1 h2 => hJ.1 a (by omega) (by omega)) (fun _ => rfl)
    refine hz_iload_n (pc := 7) C dX7_findTargets_7 rfl ?_
    refine hz_aload_n (pc := 8) C dX7_findTargets_8 rfl ?_
    refine hz_getI (pc := 9) C (v := nI (u 64)) ffX7_33 dX7_findTargets_9 hT12 hA12 rfl (hv_al VJ) ?_
    refine hz_ic_ge (pc := 12) C (tgt := 103) dX7_findTargets_12 rfl (fun cq => absurd cq (nI_ge (by omega) (by omega))) (fun _ => ?_)
    refine hz_aload_n (pc := 15) C dX7_findTargets_15 rfl ?_
    refine hz_iload_n (pc := 16) C dX7_findTargets_16 rfl ?_
    refine hz_callVs (pc := 17) C (as := [.int (nI k)]) (st := []) (ev_kindOf VJ U (k := k) (by omega)) (hz_new0 _ _) fyX2_kindOf fvX7_71 rfl dX7_findTargets_17 hT12 rfl rfl hA12 rfl rfl (Nat.le_of_ble_eq_true rfl) (by decide) (hz_cap0 _) ?_
    refine hz_astore_n (pc := 20) C (ls' := [some (.ref 4), some (.ref 12), some (.int (nI k)), some (.ref (23 + u (65 + k))), zzw4]) dX7_findTargets_20 (Nat.le_of_ble_eq_true rfl) rfl ?_
    refine hz_aload_n (pc := 21) C dX7_findTargets_21 rfl ?_
    refine hz_getP (pc := 22) C (v := 19) ffX7_75 dX7_findTargets_22 hT12 hA12 rfl (hP12_7 q) (by decide) ?_
    refine hz_getI (pc := 25) C (v := nI (u 93)) ffX7_79 dX7_findTargets_25 hT19 hA19 rfl (hv_dn VJ) ?_
    refine hz_iload_n (pc := 28) C dX7_findTargets_28 rfl ?_
    refine hz_callSNs (pc := 29) C (as := [.int (nI (u 93)), .int (nI k)]) (st := []) (ev_hasN _ (wu_dn U) (by omega)) (hz_new0 _ _) fyX10_has fsX7_56 rfl dX7_findTargets_29 rfl rfl (Nat.le_of_ble_eq_true rfl) (by decide) (hz_cap0 _) ?_
    refine hz_ifb_ne (pc := 32) C (tgt := 46) dX7_findTargets_32 rfl (fun zzc1 => ?_) (fun zzc1 => ?_)
    · refine hz_iconst (pc := 46) C (v := nI 0) dX7_findTargets_46 (by decide +kernel) ?_
      refine hz_istore (pc := 47) C (ls' := [some (.ref 4), some (.ref 12), some (.int (nI k)), some (.ref (23 + u (65 + k))), some (.int (nI 0))]) dX7_findTargets_47 (Nat.le_of_ble_eq_true rfl) rfl ?_
      refine hz_iload (pc := 49) C dX7_findTargets_49 rfl ?_
      refine hz_if_eq (pc := 51) C (tgt := 97) dX7_findTargets_51 rfl (fun _ => ?_) (fun cq => absurd (by decide +kernel) cq)
      refine hz_iinc (pc := 97) C (v := nI (k + 1)) (ls' := [some (.ref 4), some (.ref 12), some (.int (nI (k + 1))), some (.ref (23 + u (65 + k))), some (.int (nI 0))]) dX7_findTargets_97 rfl (nI_add _ 1) rfl ?_
      refine hz_goto (pc := 100) C (tgt := 7) dX7_findTargets_100 rfl ?_
      exact ih (k + 1) J (some (.ref (23 + u (65 + k)))) (some (.int (nI 0))) (by omega) (hJ.no (by simp [lo1, zzc1]))
    · refine hz_aload_n (pc := 35) C dX7_findTargets_35 rfl ?_
      refine kc_sd (pc := 36) (k := u (65 + k)) (st := []) C fvX7_84_X6 fvX7_84_X4 fvX7_84_X9 fvX7_84_X0 fvX7_84_X5 fvX7_84_X1 (by omega) dX7_findTargets_36 rfl (Nat.le_of_ble_eq_true rfl) (by decide) ?_
      refine hz_ifb_ne (pc := 39) C (tgt := 46) dX7_findTargets_39 rfl (fun zzc2 => ?_) (fun zzc2 => ?_)
      · refine hz_iconst (pc := 46) C (v := nI 0) dX7_findTargets_46 (by decide +kernel) ?_
        refine hz_istore (pc := 47) C (ls' := [some (.ref 4), some (.ref 12), some (.int (nI k)), some (.ref (23 + u (65 + k))), some (.int (nI 0))]) dX7_findTargets_47 (Nat.le_of_ble_eq_true rfl) rfl ?_
        refine hz_iload (pc := 49) C dX7_findTargets_49 rfl ?_
        refine hz_if_eq (pc := 51) C (tgt := 97) dX7_findTargets_51 rfl (fun _ => ?_) (fun cq => absurd (by decide +kernel) cq)
        refine hz_iinc (pc := 97) C (v := nI (k + 1)) (ls' := [some (.ref 4), some (.ref 12), some (.int (nI (k + 1))), some (.ref (23 + u (65 + k))), some (.int (nI 0))]) dX7_findTargets_97 rfl (nI_add _ 1) rfl ?_
        refine hz_goto (pc := 100) C (tgt := 7) dX7_findTargets_100 rfl ?_
        exact ih (k + 1) J (some (.ref (23 + u (65 + k)))) (some (.int (nI 0))) (by omega) (hJ.no (by simp [lo1, zzc2]))
      · refine hz_iconst (pc := 42) C (v := nI 1) dX7_findTargets_42 (by decide +kernel) ?_
        refine hz_goto (pc := 43) C (tgt := 47) dX7_findTargets_43 rfl ?_
        refine hz_istore (pc := 47) C (ls' := [some (.ref 4), some (.ref 12), some (.int (nI k)), some (.ref (23 + u (65 + k))), some (.int (nI 1))]) dX7_findTargets_47 (Nat.le_of_ble_eq_true rfl) rfl ?_
        refine hz_iload (pc := 49) C dX7_findTargets_49 rfl ?_
        refine hz_if_eq (pc := 51) C (tgt := 97) dX7_findTargets_51 rfl (fun cq => absurd cq (by decide +kernel)) (fun _ => ?_)
        refine hz_aload_n (pc := 54) C dX7_findTargets_54 rfl ?_
        refine hz_aload_n (pc := 55) C dX7_findTargets_55 rfl ?_
        refine hz_getP (pc := 56) C (v := 19) ffX7_75 dX7_findTargets_56 hT12 hA12 rfl (hP12_7 q) (by decide) ?_
        refine hz_getI (pc := 59) C (v := nI (u 92)) ffX7_90 dX7_findTargets_59 hT19 hA19 rfl (hv_co VJ) ?_
        refine hz_aload_n (pc := 62) C dX7_findTargets_62 rfl ?_
        refine hz_getP (pc := 63) C (v := 19) ffX7_75 dX7_findTargets_63 hT12 hA12 rfl (hP12_7 q) (by decide) ?_
        refine hz_getP (pc := 66) C (v := 20) ffX7_93 dX7_findTargets_66 hT19 hA19 rfl (hP19_0 q) (by decide) ?_
        refine hz_iload_n (pc := 69) C dX7_findTargets_69 rfl ?_
        refine hz_iald (pc := 70) C (v := nI (u (94 + k))) (j := k) dX7_findTargets_70 hT20 hA20 rfl (by omega) (by decide) (hv_ba VJ (by omega)) ?_
        refine kc_ev (pc := 71) (k := u (65 + k)) (st := []) C fvX7_96_X6 fvX7_96_X4 fvX7_96_X9 fvX7_96_X0 fvX7_96_X5 fvX7_96_X1 (by omega) dX7_findTargets_71 rfl (Nat.le_of_ble_eq_true rfl) (by decide) ?_
        refine hz_ifb_eq (pc := 74) C (tgt := 97) dX7_findTargets_74 rfl (fun zzc3 => ?_) (fun zzc3 => ?_)
        · refine hz_iinc (pc := 97) C (v := nI (k + 1)) (ls' := [some (.ref 4), some (.ref 12), some (.int (nI (k + 1))), some (.ref (23 + u (65 + k))), some (.int (nI 1))]) dX7_findTargets_97 rfl (nI_add _ 1) rfl ?_
          refine hz_goto (pc := 100) C (tgt := 7) dX7_findTargets_100 rfl ?_
          exact ih (k + 1) J (some (.ref (23 + u (65 + k)))) (some (.int (nI 1))) (by omega) (hJ.no (by simp [lo1, zzc3]))
        · refine hz_aload_n (pc := 77) C dX7_findTargets_77 rfl ?_
          refine hz_getP (pc := 78) C (v := 9) ffX7_24 dX7_findTargets_78 hT4 hA4 rfl (hP4_4 q) (by decide) ?_
          refine hz_aload_n (pc := 81) C dX7_findTargets_81 rfl ?_
          refine hz_getI (pc := 82) C (v := nI (csum (lo1 u) k)) ffX7_68 dX7_findTargets_82 hT4 hA4 rfl hJ.2.1 ?_
          refine hz_iload_n (pc := 85) C dX7_findTargets_85 rfl ?_
          refine hz_iast (pc := 86) C (v := nI k) (j := csum (lo1 u) k) (M' := (hz_up J 9 (csum (lo1 u) k) (nI k), L, PP q)) dX7_findTargets_86 hT9 hA9 rfl (by omega) (by decide) rfl rfl ?_
          refine hz_aload_n (pc := 87) C dX7_findTargets_87 rfl ?_
          refine hz_dup (pc := 88) C dX7_findTargets_88 rfl ?_
          refine hz_getI (pc := 89) C (v := nI (csum (lo1 u) k)) ffX7_68 dX7_findTargets_89 hT4 hA4 rfl hJ.2.1 ?_
          refine hz_iconst (pc := 92) C (v := nI 1) dX7_findTargets_92 (by decide +kernel) ?_
          refine hz_iadd (pc := 93) C (v := nI ((csum (lo1 u) k) + 1)) dX7_findTargets_93 (nI_add _ _) ?_
          refine hz_putI (pc := 94) C (M' := (hz_up (hz_up J 9 (csum (lo1 u) k) (nI k)) 4 7 (nI ((csum (lo1 u) k) + 1)), L, PP q)) ffX7_68 dX7_findTargets_94 hT4 hA4 rfl rfl ⟨rfl, rfl⟩ rfl ?_
          refine hz_iinc (pc := 97) C (v := nI (k + 1)) (ls' := [some (.ref 4), some (.ref 12), some (.int (nI (k + 1))), some (.ref (23 + u (65 + k))), some (.int (nI 1))]) dX7_findTargets_97 rfl (nI_add _ 1) rfl ?_
          refine hz_goto (pc := 100) C (tgt := 7) dX7_findTargets_100 rfl ?_
          exact ih (k + 1) _ (some (.ref (23 + u (65 + k)))) (some (.int (nI 1))) (by omega) (hJ.yes (by simp [lo1, zzc1, zzc2, zzc3]))
set_option maxHeartbeats 4000000 in
set_option maxRecDepth 100000 in
theorem ex_findT {I : Nat → Nat → Int32} {L : Nat → Nat → Int64} {q : Nat → Nat → Nat} {u : Nat → Nat} (V : HV 12 q I u) (U : WU u) : hz_Ex mX7_findTargets TT NN (I, L, PP q) [.ref 4, .ref 12] (hz_PI L (PP q) none (fun J => fT u I J (u 64))) := by
  refine hz_Ex.intro (ls := [some (.ref 4), some (.ref 12), none, none, none]) (by decide +kernel) rfl (Nat.le_of_ble_eq_true rfl) (fun X C Z => ?_)
  refine hz_aload_n (pc := 0) C dX7_findTargets_0 rfl ?_
  refine hz_iconst (pc := 1) C (v := nI 0) dX7_findTargets_1 (by decide +kernel) ?_
  refine hz_putI (pc := 2) C (M' := (hz_up I 4 7 (nI 0), L, PP q)) ffX7_68 dX7_findTargets_2 hT4 hA4 rfl rfl ⟨rfl, rfl⟩ rfl ?_
  refine hz_iconst (pc := 5) C (v := nI 0) dX7_findTargets_5 (by decide +kernel) ?_
  refine hz_istore_n (pc := 6) C (ls' := [some (.ref 4), some (.ref 12), some (.int (nI 0)), none, none]) dX7_findTargets_6 (Nat.le_of_ble_eq_true rfl) rfl ?_
  refine lp_ft C V U (fun J zzw3 zzw4 hJ => ?_) (u 64) 0 _ _ _ (by omega) ⟨fun a h1 _ => hz_up_ne _ _ _ _ h1, hz_up_self _ _ _ _, fun i hi => absurd hi (Nat.not_lt_zero _)⟩
  exact hz_vretx C Z rfl dX7_findTargets_103 ⟨J, rfl, rfl, hJ⟩
theorem di_i {u : Nat → Nat} (U : WU u) {i : Nat} (h : i < mm u) (j : Nat) : di u i j = ds u (u (71 + tgx u i)) (u (71 + tgx u j)) := by
  rw [di_e, tga_i U h]
  unfold dd
  rw [if_neg (by have := tgx_lt h; have := wu_al U; omega)]
theorem di_6 (u : Nat → Nat) (j : Nat) : di u 6 j = ds u (u 91) (u (71 + tgx u j)) := by
  rw [di_e, show tga u 6 = 6 from if_pos rfl]
  unfold dd
  rw [if_pos rfl]
def mLo (q : Nat → Nat → Nat) (u : Nat → Nat) (I J : Nat → Nat → Int32) (j : Nat) : Prop := (∀ a, a ≠ 10 → a ≠ 12 → a ≠ 14 → J a = I a) ∧ HV 12 q J u ∧ ∀ j', j' < j → J 10 (36 + j') = nI (di u 6 j') ∧ ∀ i, i < mm u → J 10 (i * 6 + j') = nI (di u i j')
def mLi (q : Nat → Nat → Nat) (u : Nat → Nat) (I J : Nat → Nat → Int32) (j i : Nat) : Prop := mLo q u I J j ∧ J 10 (36 + j) = nI (di u 6 j) ∧ ∀ i', i' < i → J 10 (i' * 6 + j) = nI (di u i' j)
theorem mLo.up {q : Nat → Nat → Nat} {u : Nat → Nat} (U : WU u) {I J : Nat → Nat → Int32} {j p : Nat} {x : Int32} (h : mLo q u I J j) (hp : ∀ j', j' < j → p ≠ 36 + j' ∧ ∀ i, i < mm u → p ≠ i * 6 + j') : mLo q u I (hz_up (ms u J) 10 p x) j := by
  refine ⟨fun a h1 h2 h3 => by rw [hz_up_ne _ _ _ _ h1, ms_at u J h2 h3]; exact h.1 a h1 h2 h3, (hv_ms h.2.1 U).cong U (fun a h1 h2 => hz_up_ne _ _ _ _ (by omega)) (fun _ => rfl), fun j' hj' => ⟨?_, fun i hi => ?_⟩⟩
  · rw [hz_up_nk _ _ _ _ (fun z => (hp j' hj').1 z.symm), ms_at u J (by omega) (by omega)]; exact (h.2.2 j' hj').1
  · rw [hz_up_nk _ _ _ _ (fun z => (hp j' hj').2 i hi z.symm), ms_at u J (by omega) (by omega)]; exact (h.2.2 j' hj').2 i hi
theorem mLi.ini {q : Nat → Nat → Nat} {u : Nat → Nat} (U : WU u) {I J : Nat → Nat → Int32} {j : Nat} (hj : j < mm u) (h : mLo q u I J j) : mLi q u I (hz_up (ms u J) 10 (36 + j) (nI (ds u (u 91) (u (71 + tgx u j))))) j 0 := by
  have hm := mm_le U
  exact ⟨h.up U (fun j' hj' => ⟨by omega, fun i hi => by omega⟩), by rw [hz_up_self, di_6], fun i hi => absurd hi (Nat.not_lt_zero _)⟩
theorem mLi.nxt {q : Nat → Nat → Nat} {u : Nat → Nat} (U : WU u) {I J : Nat → Nat → Int32} {j i : Nat} (hj : j < mm u) (hi : i < mm u) (h : mLi q u I J j i) : mLi q u I (hz_up (ms u J) 10 ((i * 6) + j) (nI (ds u (u (71 + tgx u i)) (u (71 + tgx u j))))) j (i + 1) := by
  have hm := mm_le U
  refine ⟨h.1.up U (fun j' hj' => ⟨by omega, fun i hi => by omega⟩), by rw [hz_up_nk _ _ _ _ (by omega), ms_at u J (by omega) (by omega)]; exact h.2.1, fun i' hi' => ?_⟩
  by_cases hz : i' = i
  · subst hz; rw [hz_up_self, di_i U hi]
  · rw [hz_up_nk _ _ _ _ (by omega), ms_at u J (by omega) (by omega)]; exact h.2.2 i' (by omega)
theorem mLi.fin {q : Nat → Nat → Nat} {u : Nat → Nat} {I J : Nat → Nat → Int32} {j : Nat} (h : mLi q u I J j (mm u)) : mLo q u I J (j + 1) := by
  refine ⟨h.1.1, h.1.2.1, fun j' hj' => ?_⟩
  by_cases hz : j' = j
  · subst hz; exact h.2
  · exact h.1.2.2 j' (by omega)
set_option maxHeartbeats 4000000 in
set_option maxRecDepth 100000 in
theorem lp_mi {X : hz_X} (C : hz_C X mX7_measureLegs) {I : Nat → Nat → Int32} {L : Nat → Nat → Int64} {q : Nat → Nat → Nat} {u : Nat → Nat} (U : WU u) (hq7 : I 4 7 = nI (mm u)) (hq9 : ∀ i, i < mm u → I 9 i = nI (tgx u i)) {j : Nat} (hj : j < mm u) (kk : ∀ J, mLo q u I J (j + 1) → hz_G X TT NN (J, L, PP q) 0 0 90 [some (.ref 4), some (.ref 12), some (.int (nI j)), some (.int (nI (u (71 + tgx u j)))), some (.int (nI (mm u)))] []) : ∀ (n i : Nat) (J : Nat → Nat → Int32), i + n = mm u → mLi q u I J j i → hz_G X TT NN (J, L, PP q) 0 0 46 [some (.ref 4), some (.ref 12), some (.int (nI j)), some (.int (nI (u (71 + tgx u j)))), some (.int (nI i))] [] := by
  intro n
  induction n with
  | zero =>
    intro i J hi hJ
    obtain rfl : mm u = i := by omega
    have hal := wu_al U
    have hm := mm_le U
    have hpl := wu_pl U
    have htj := tgx_lt (u := u) (i := j) (by omega)
    have hrj := wu_rm U htj
    have VJ := hJ.1.2.1
    refine hz_iload (pc := 46) C dX7_measureLegs_46 rfl ?_
    refine hz_aload_n (pc := 48) C dX7_measureLegs_48 rfl ?_
    refine hz_getI (pc := 49) C (v := nI (mm u)) ffX7_68 dX7_measureLegs_49 hT4 hA4 rfl ((congrFun (hJ.1.1 4 (by omega) (by omega) (by omega)) 7).trans hq7) ?_
    refine hz_ic_ge (pc := 52) C (tgt := 90) dX7_measureLegs_52 rfl (fun _ => ?_) (fun cq => absurd (nI_le (by omega) (by omega)) cq)
    exact kk J hJ.fin
  | succ n ih =>
    intro i J hi hJ
    have hal := wu_al U
    have hm := mm_le U
    have hpl := wu_pl U
    have htj := tgx_lt (u := u) (i := j) (by omega)
    have hrj := wu_rm U htj
    have hti := tgx_lt (u := u) (i := i) (by omega)
    have hri := wu_rm U hti
    have VJ := hJ.1.2.1
    refine hz_iload (pc := 46) C dX7_measureLegs_46 rfl ?_
    refine hz_aload_n (pc := 48) C dX7_measureLegs_48 rfl ?_
    refine hz_getI (pc := 49) C (v := nI (mm u)) ffX7_68 dX7_measureLegs_49 hT4 hA4 rfl ((congrFun (hJ.1.1 4 (by omega) (by omega) (by omega)) 7).trans hq7) ?_
    refine hz_ic_ge (pc := 52) C (tgt := 90) dX7_measureLegs_52 rfl (fun cq => absurd cq (nI_ge (by omega) (by omega))) (fun _ => ?_)
    refine hz_aload_n (pc := 55) C dX7_measureLegs_55 rfl ?_
    refine hz_getP (pc := 56) C (v := 10) ffX7_27 dX7_measureLegs_56 hT4 hA4 rfl (hP4_5 q) (by decide) ?_
    refine hz_iload (pc := 59) C dX7_measureLegs_59 rfl ?_
    refine hz_bipush (pc := 61) C (v := nI 6) dX7_measureLegs_61 (by decide +kernel) ?_
    refine hz_imul (pc := 63) C (v := nI (i * 6)) dX7_measureLegs_63 (pk_mul _ _) ?_
    refine hz_iload_n (pc := 64) C dX7_measureLegs_64 rfl ?_
    refine hz_iadd (pc := 65) C (v := nI ((i * 6) + j)) dX7_measureLegs_65 (nI_add _ _) ?_
    refine hz_aload_n (pc := 66) C dX7_measureLegs_66 rfl ?_
    refine hz_aload_n (pc := 67) C dX7_measureLegs_67 rfl ?_
    refine hz_getP (pc := 68) C (v := 16) ffX7_99 dX7_measureLegs_68 hT12 hA12 rfl (hP12_4 q) (by decide) ?_
    refine hz_aload_n (pc := 71) C dX7_measureLegs_71 rfl ?_
    refine hz_getP (pc := 72) C (v := 9) ffX7_24 dX7_measureLegs_72 hT4 hA4 rfl (hP4_4 q) (by decide) ?_
    refine hz_iload (pc := 75) C dX7_measureLegs_75 rfl ?_
    refine hz_iald (pc := 77) C (v := nI (tgx u i)) (j := i) dX7_measureLegs_77 hT9 hA9 rfl (by omega) (by decide) ((congrFun (hJ.1.1 9 (by omega) (by omega) (by omega)) _).trans (hq9 i (by omega))) ?_
    refine hz_iald (pc := 78) C (v := nI (u (71 + tgx u i))) (j := tgx u i) dX7_measureLegs_78 hT16 hA16 rfl (by omega) (by decide) (hv_rm VJ (by omega)) ?_
    refine hz_iload_n (pc := 79) C dX7_measureLegs_79 rfl ?_
    refine hz_callVs (pc := 80) C (as := [.int (nI (u (71 + tgx u i))), .int (nI (u (71 + tgx u j)))]) (st := [.int (nI ((i * 6) + j)), .ref 10]) (ev_dist (L := L) VJ U (a := u (71 + tgx u i)) (b := u (71 + tgx u j)) (by omega) (by omega)) (hz_new0 _ _) fyX2_distanceBetween fvX7_105 rfl dX7_measureLegs_80 hT12 rfl rfl hA12 rfl rfl (Nat.le_of_ble_eq_true rfl) (by decide) (hz_cap0 _) ?_
    refine hz_iast (pc := 83) C (v := nI (ds u (u (71 + tgx u i)) (u (71 + tgx u j)))) (j := (i * 6) + j) (M' := (hz_up (ms u J) 10 ((i * 6) + j) (nI (ds u (u (71 + tgx u i)) (u (71 + tgx u j)))), L, PP q)) dX7_measureLegs_83 hT10 hA10 rfl (by omega) (by decide) rfl rfl ?_
    refine hz_iinc (pc := 84) C (v := nI (i + 1)) (ls' := [some (.ref 4), some (.ref 12), some (.int (nI j)), some (.int (nI (u (71 + tgx u j)))), some (.int (nI (i + 1)))]) dX7_measureLegs_84 rfl (nI_add _ 1) rfl ?_
    refine hz_goto (pc := 87) C (tgt := 46) dX7_measureLegs_87 rfl ?_
    exact ih (i + 1) _ (by omega) (hJ.nxt U hj (by omega))
set_option maxHeartbeats 4000000 in
set_option maxRecDepth 100000 in
theorem lp_mo {X : hz_X} (C : hz_C X mX7_measureLegs) {I : Nat → Nat → Int32} {L : Nat → Nat → Int64} {q : Nat → Nat → Nat} {u : Nat → Nat} (U : WU u) (hq7 : I 4 7 = nI (mm u)) (hq9 : ∀ i, i < mm u → I 9 i = nI (tgx u i)) (kk : ∀ J (zzw3 zzw4 : Option Value), mLo q u I J (mm u) → hz_G X TT NN (J, L, PP q) 0 0 96 [some (.ref 4), some (.ref 12), some (.int (nI (mm u))), zzw3, zzw4] []) : ∀ (n j : Nat) (J : Nat → Nat → Int32) (zzw3 zzw4 : Option Value), j + n = mm u → mLo q u I J j → hz_G X TT NN (J, L, PP q) 0 0 2 [some (.ref 4), some (.ref 12), some (.int (nI j)), zzw3, zzw4] [] := by
  intro n
  induction n with
  | zero =>
    intro j J zzw3 zzw4 hi hJ
    obtain rfl : mm u = j := by omega
    have hm := mm_le U
    refine hz_iload_n (pc := 2) C dX7_measureLegs_2 rfl ?_
    refine hz_aload_n (pc := 3) C dX7_measureLegs_3 rfl ?_
    refine hz_getI (pc := 4) C (v := nI (mm u)) ffX7_68 dX7_measureLegs_4 hT4 hA4 rfl ((congrFun (hJ.1 4 (by omega) (by omega) (by omega)) 7).trans hq7) ?_
    refine hz_ic_ge (pc := 7) C (tgt := 96) dX7_measureLegs_7 rfl (fun _ => ?_) (fun cq => absurd (nI_le (by omega) (by omega)) cq)
    exact kk J zzw3 zzw4 hJ
  | succ n ih =>
    intro j J zzw3 zzw4 hi hJ
    have hal := wu_al U
    have hm := mm_le U
    have hpl := wu_pl U
    have htj := tgx_lt (u := u) (i := j) (by omega)
    have hrj := wu_rm U htj
    have VJ := hJ.2.1
    refine hz_iload_n (pc := 2) C dX7_measureLegs_2 rfl ?_
    refine hz_aload_n (pc := 3) C dX7_measureLegs_3 rfl ?_
    refine hz_getI (pc := 4) C (v := nI (mm u)) ffX7_68 dX7_measureLegs_4 hT4 hA4 rfl ((congrFun (hJ.1 4 (by omega) (by omega) (by omega)) 7).trans hq7) ?_
    refine hz_ic_ge (pc := 7) C (tgt := 96) dX7_measureLegs_7 rfl (fun cq => absurd cq (nI_ge (by omega) (by omega))) (fun _ => ?_)
    refine hz_aload_n (pc := 10) C dX7_measureLegs_10 rfl ?_
    refine hz_getP (pc := 11) C (v := 16) ffX7_99 dX7_measureLegs_11 hT12 hA12 rfl (hP12_4 q) (by decide) ?_
    refine hz_aload_n (pc := 14) C dX7_measureLegs_14 rfl ?_
    refine hz_getP (pc := 15) C (v := 9) ffX7_24 dX7_measureLegs_15 hT4 hA4 rfl (hP4_4 q) (by decide) ?_
    refine hz_iload_n (pc := 18) C dX7_measureLegs_18 rfl ?_
    refine hz_iald (pc := 19) C (v := nI (tgx u j)) (j := j) dX7_measureLegs_19 hT9 hA9 rfl (by omega) (by decide) ((congrFun (hJ.1 9 (by omega) (by omega) (by omega)) _).trans (hq9 j (by omega))) ?_
    refine hz_iald (pc := 20) C (v := nI (u (71 + tgx u j))) (j := tgx u j) dX7_measureLegs_20 hT16 hA16 rfl (by omega) (by decide) (hv_rm VJ (by omega)) ?_
    refine hz_istore_n (pc := 21) C (ls' := [some (.ref 4), some (.ref 12), some (.int (nI j)), some (.int (nI (u (71 + tgx u j)))), zzw4]) dX7_measureLegs_21 (Nat.le_of_ble_eq_true rfl) rfl ?_
    refine hz_aload_n (pc := 22) C dX7_measureLegs_22 rfl ?_
    refine hz_getP (pc := 23) C (v := 10) ffX7_27 dX7_measureLegs_23 hT4 hA4 rfl (hP4_5 q) (by decide) ?_
    refine hz_bipush (pc := 26) C (v := nI 36) dX7_measureLegs_26 (by decide +kernel) ?_
    refine hz_iload_n (pc := 28) C dX7_measureLegs_28 rfl ?_
    refine hz_iadd (pc := 29) C (v := nI (36 + j)) dX7_measureLegs_29 (nI_add _ _) ?_
    refine hz_aload_n (pc := 30) C dX7_measureLegs_30 rfl ?_
    refine hz_aload_n (pc := 31) C dX7_measureLegs_31 rfl ?_
    refine hz_getP (pc := 32) C (v := 19) ffX7_75 dX7_measureLegs_32 hT12 hA12 rfl (hP12_7 q) (by decide) ?_
    refine hz_getI (pc := 35) C (v := nI (u 91)) ffX7_102 dX7_measureLegs_35 hT19 hA19 rfl (hv_pl VJ) ?_
    refine hz_iload_n (pc := 38) C dX7_measureLegs_38 rfl ?_
    refine hz_callVs (pc := 39) C (as := [.int (nI (u 91)), .int (nI (u (71 + tgx u j)))]) (st := [.int (nI (36 + j)), .ref 10]) (ev_dist (L := L) VJ U (a := u 91) (b := u (71 + tgx u j)) (by omega) (by omega)) (hz_new0 _ _) fyX2_distanceBetween fvX7_105 rfl dX7_measureLegs_39 hT12 rfl rfl hA12 rfl rfl (Nat.le_of_ble_eq_true rfl) (by decide) (hz_cap0 _) ?_
    refine hz_iast (pc := 42) C (v := nI (ds u (u 91) (u (71 + tgx u j)))) (j := 36 + j) (M' := (hz_up (ms u J) 10 (36 + j) (nI (ds u (u 91) (u (71 + tgx u j)))), L, PP q)) dX7_measureLegs_42 hT10 hA10 rfl (by omega) (by decide) rfl rfl ?_
    refine hz_iconst (pc := 43) C (v := nI 0) dX7_measureLegs_43 (by decide +kernel) ?_
    refine hz_istore (pc := 44) C (ls' := [some (.ref 4), some (.ref 12), some (.int (nI j)), some (.int (nI (u (71 + tgx u j)))), some (.int (nI 0))]) dX7_measureLegs_44 (Nat.le_of_ble_eq_true rfl) rfl ?_
    refine lp_mi C U hq7 hq9 (by omega) (fun J hJ => ?_) (mm u) 0 _ (by omega) (mLi.ini U (by omega) hJ)
    refine hz_iinc (pc := 90) C (v := nI (j + 1)) (ls' := [some (.ref 4), some (.ref 12), some (.int (nI (j + 1))), some (.int (nI (u (71 + tgx u j)))), some (.int (nI (mm u)))]) dX7_measureLegs_90 rfl (nI_add _ 1) rfl ?_
    refine hz_goto (pc := 93) C (tgt := 2) dX7_measureLegs_93 rfl ?_
    exact ih (j + 1) J (some (.int (nI (u (71 + tgx u j))))) (some (.int (nI (mm u)))) (by omega) hJ
set_option maxHeartbeats 4000000 in
set_option maxRecDepth 100000 in
theorem ex_legs {I : Nat → Nat → Int32} {L : Nat → Nat → Int64} {q : Nat → Nat → Nat} {u : Nat → Nat} (U : WU u) (hq7 : I 4 7 = nI (mm u)) (hq9 : ∀ i, i < mm u → I 9 i = nI (tgx u i)) (V : HV 12 q I u) : hz_Ex mX7_measureLegs TT NN (I, L, PP q) [.ref 4, .ref 12] (hz_PI L (PP q) none (fun J => mLo q u I J (mm u))) := by
  refine hz_Ex.intro (ls := [some (.ref 4), some (.ref 12), none, none, none]) (by decide +kernel) rfl (Nat.le_of_ble_eq_true rfl) (fun X C Z => ?_)
  refine hz_iconst (pc := 0) C (v := nI 0) dX7_measureLegs_0 (by decide +kernel) ?_
  refine hz_istore_n (pc := 1) C (ls' := [some (.ref 4), some (.ref 12), some (.int (nI 0)), none, none]) dX7_measureLegs_1 (Nat.le_of_ble_eq_true rfl) rfl ?_
  refine lp_mo C U hq7 hq9 (fun J zzw3 zzw4 hJ => ?_) (mm u) 0 I _ _ (by omega) ⟨fun _ _ _ _ => rfl, V, fun j hj => absurd hj (Nat.not_lt_zero _)⟩
  exact hz_vretx C Z rfl dX7_measureLegs_96 ⟨J, rfl, rfl, hJ⟩
set_option maxHeartbeats 4000000 in
set_option maxRecDepth 100000 in
theorem lp_aj {X : hz_X} (C : hz_C X mX7_allJoined) {J : Nat → Nat → Int32} {L : Nat → Nat → Int64} {q : Nat → Nat → Nat} {u : Nat → Nat} (U : WU u) (h7 : J 4 7 = nI (mm u)) (h10 : ∀ a i, (a = 6 ∨ a < mm u) → i < mm u → J 10 (a * 6 + i) = nI (di u a i)) (hA : ∀ i, i < mm u → di u 6 i < 1000) (kk : hz_G X TT NN (J, L, PP q) 0 0 33 [some (.ref 4), some (.int (nI (mm u)))] []) : ∀ (n i : Nat) , i + n = mm u → hz_G X TT NN (J, L, PP q) 0 0 2 [some (.ref 4), some (.int (nI i))] [] := by
  intro n
  induction n with
  | zero =>
    intro i  hi 
    obtain rfl : mm u = i := by omega
    have hm := mm_le U
    refine hz_iload_n (pc := 2) C dX7_allJoined_2 rfl ?_
    refine hz_aload_n (pc := 3) C dX7_allJoined_3 rfl ?_
    refine hz_getI (pc := 4) C (v := nI (mm u)) ffX7_68 dX7_allJoined_4 hT4 hA4 rfl h7 ?_
    refine hz_ic_ge (pc := 7) C (tgt := 33) dX7_allJoined_7 rfl (fun _ => ?_) (fun cq => absurd (nI_le (by omega) (by omega)) cq)
    exact kk
  | succ n ih =>
    intro i  hi 
    have hm := mm_le U
    have hdl : di u 6 i ≤ 1000 := by rw [di_6]; exact ds_le U (wu_pl U) (wu_rm U (tgx_lt (by omega)))
    have hA1 := hA i (by omega)
    refine hz_iload_n (pc := 2) C dX7_allJoined_2 rfl ?_
    refine hz_aload_n (pc := 3) C dX7_allJoined_3 rfl ?_
    refine hz_getI (pc := 4) C (v := nI (mm u)) ffX7_68 dX7_allJoined_4 hT4 hA4 rfl h7 ?_
    refine hz_ic_ge (pc := 7) C (tgt := 33) dX7_allJoined_7 rfl (fun cq => absurd cq (nI_ge (by omega) (by omega))) (fun _ => ?_)
    refine hz_aload_n (pc := 10) C dX7_allJoined_10 rfl ?_
    refine hz_getP (pc := 11) C (v := 10) ffX7_27 dX7_allJoined_11 hT4 hA4 rfl (hP4_5 q) (by decide) ?_
    refine hz_bipush (pc := 14) C (v := nI 36) dX7_allJoined_14 (by decide +kernel) ?_
    refine hz_iload_n (pc := 16) C dX7_allJoined_16 rfl ?_
    refine hz_iadd (pc := 17) C (v := nI (36 + i)) dX7_allJoined_17 (nI_add _ _) ?_
    refine hz_iald (pc := 18) C (v := nI (di u 6 i)) (j := 36 + i) dX7_allJoined_18 hT10 hA10 rfl (by omega) (by decide) (h10 6 i (Or.inl rfl) (by omega)) ?_
    refine hz_sipush (pc := 19) C (v := nI 1000) dX7_allJoined_19 (by decide +kernel) ?_
    refine hz_ic_lt (pc := 22) C (tgt := 27) dX7_allJoined_22 rfl (fun _ => ?_) (fun cq => absurd (nI_lt (by omega) (by omega)) cq)
    refine hz_iinc (pc := 27) C (v := nI (i + 1)) (ls' := [some (.ref 4), some (.int (nI (i + 1)))]) dX7_allJoined_27 rfl (nI_add _ 1) rfl ?_
    refine hz_goto (pc := 30) C (tgt := 2) dX7_allJoined_30 rfl ?_
    exact ih (i + 1) (by omega)
set_option maxHeartbeats 4000000 in
set_option maxRecDepth 100000 in
theorem ev_joined {J : Nat → Nat → Int32} {L : Nat → Nat → Int64} {q : Nat → Nat → Nat} {u : Nat → Nat} (U : WU u) (h7 : J 4 7 = nI (mm u)) (h10 : ∀ a i, (a = 6 ∨ a < mm u) → i < mm u → J 10 (a * 6 + i) = nI (di u a i)) (hA : ∀ i, i < mm u → di u 6 i < 1000) : hz_Ev mX7_allJoined TT NN (J, L, PP q) [.ref 4] 0 0 (some (.int (nI 1))) TT NN (J, L, PP q) := by
  refine hz_Ev.intro (ls := [some (.ref 4), none]) (by decide +kernel) rfl (Nat.le_of_ble_eq_true rfl) (fun X C Z _ => ?_)
  refine hz_iconst (pc := 0) C (v := nI 0) dX7_allJoined_0 (by decide +kernel) ?_
  refine hz_istore_n (pc := 1) C (ls' := [some (.ref 4), some (.int (nI 0))]) dX7_allJoined_1 (Nat.le_of_ble_eq_true rfl) rfl ?_
  refine lp_aj C U h7 h10 hA ?_ (mm u) 0 (by omega)
  refine hz_iconst (pc := 33) C (v := nI 1) dX7_allJoined_33 (by decide +kernel) ?_
  exact hz_zret C Z rfl (by decide +kernel) dX7_allJoined_34 rfl rfl
set_option maxHeartbeats 4000000 in
set_option maxRecDepth 100000 in
theorem lp_ak {X : hz_X} (C : hz_C X mX7_allJoined) {J : Nat → Nat → Int32} {L : Nat → Nat → Int64} {q : Nat → Nat → Nat} {u : Nat → Nat} (U : WU u) (h7 : J 4 7 = nI (mm u)) (h10 : ∀ a i, (a = 6 ∨ a < mm u) → i < mm u → J 10 (a * 6 + i) = nI (di u a i)) {zzi0 : Nat} (hi0 : zzi0 < mm u) (hB : 1000 ≤ di u 6 zzi0) (Z : hz_Z X 0 0 (some (.int (nI 0))) TT NN (J, L, PP q))  : ∀ (n i : Nat) , i + n = mm u → i ≤ zzi0 → hz_G X TT NN (J, L, PP q) 0 0 2 [some (.ref 4), some (.int (nI i))] [] := by
  intro n
  induction n with
  | zero =>
    intro i  hi hle
    obtain rfl : mm u = i := by omega
    have hm := mm_le U
    refine hz_iload_n (pc := 2) C dX7_allJoined_2 rfl ?_
    refine hz_aload_n (pc := 3) C dX7_allJoined_3 rfl ?_
    refine hz_getI (pc := 4) C (v := nI (mm u)) ffX7_68 dX7_allJoined_4 hT4 hA4 rfl h7 ?_
    refine hz_ic_ge (pc := 7) C (tgt := 33) dX7_allJoined_7 rfl (fun _ => ?_) (fun cq => absurd (nI_le (by omega) (by omega)) cq)
    exact absurd hle (by omega)
  | succ n ih =>
    intro i  hi hle
    have hm := mm_le U
    have hdl : di u 6 i ≤ 1000 := by rw [di_6]; exact ds_le U (wu_pl U) (wu_rm U (tgx_lt (by omega)))
    refine hz_iload_n (pc := 2) C dX7_allJoined_2 rfl ?_
    refine hz_aload_n (pc := 3) C dX7_allJoined_3 rfl ?_
    refine hz_getI (pc := 4) C (v := nI (mm u)) ffX7_68 dX7_allJoined_4 hT4 hA4 rfl h7 ?_
    refine hz_ic_ge (pc := 7) C (tgt := 33) dX7_allJoined_7 rfl (fun cq => absurd cq (nI_ge (by omega) (by omega))) (fun _ => ?_)
    refine hz_aload_n (pc := 10) C dX7_allJoined_10 rfl ?_
    refine hz_getP (pc := 11) C (v := 10) ffX7_27 dX7_allJoined_11 hT4 hA4 rfl (hP4_5 q) (by decide) ?_
    refine hz_bipush (pc := 14) C (v := nI 36) dX7_allJoined_14 (by decide +kernel) ?_
    refine hz_iload_n (pc := 16) C dX7_allJoined_16 rfl ?_
    refine hz_iadd (pc := 17) C (v := nI (36 + i)) dX7_allJoined_17 (nI_add _ _) ?_
    refine hz_iald (pc := 18) C (v := nI (di u 6 i)) (j := 36 + i) dX7_allJoined_18 hT10 hA10 rfl (by omega) (by decide) (h10 6 i (Or.inl rfl) (by omega)) ?_
    refine hz_sipush (pc := 19) C (v := nI 1000) dX7_allJoined_19 (by decide +kernel) ?_
    refine hz_ic_lt (pc := 22) C (tgt := 27) dX7_allJoined_22 rfl (fun zzc1 => ?_) (fun zzc1 => ?_)
    · refine hz_iinc (pc := 27) C (v := nI (i + 1)) (ls' := [some (.ref 4), some (.int (nI (i + 1)))]) dX7_allJoined_27 rfl (nI_add _ 1) rfl ?_
      refine hz_goto (pc := 30) C (tgt := 2) dX7_allJoined_30 rfl ?_
      exact ih (i + 1) (by omega) (by
        by_cases hz : i = zzi0
        · subst hz; exact absurd zzc1 (nI_nlt hB (by omega))
        · omega)
    · refine hz_iconst (pc := 25) C (v := nI 0) dX7_allJoined_25 (by decide +kernel) ?_
      exact hz_zret C Z rfl (by decide +kernel) dX7_allJoined_26 rfl rfl
set_option maxHeartbeats 4000000 in
set_option maxRecDepth 100000 in
theorem ev_joinedN {J : Nat → Nat → Int32} {L : Nat → Nat → Int64} {q : Nat → Nat → Nat} {u : Nat → Nat} (U : WU u) (h7 : J 4 7 = nI (mm u)) (h10 : ∀ a i, (a = 6 ∨ a < mm u) → i < mm u → J 10 (a * 6 + i) = nI (di u a i)) {zzi0 : Nat} (hi0 : zzi0 < mm u) (hB : 1000 ≤ di u 6 zzi0) : hz_Ev mX7_allJoined TT NN (J, L, PP q) [.ref 4] 0 0 (some (.int (nI 0))) TT NN (J, L, PP q) := by
  refine hz_Ev.intro (ls := [some (.ref 4), none]) (by decide +kernel) rfl (Nat.le_of_ble_eq_true rfl) (fun X C Z _ => ?_)
  refine hz_iconst (pc := 0) C (v := nI 0) dX7_allJoined_0 (by decide +kernel) ?_
  refine hz_istore_n (pc := 1) C (ls' := [some (.ref 4), some (.int (nI 0))]) dX7_allJoined_1 (Nat.le_of_ble_eq_true rfl) rfl ?_
  exact lp_ak C U h7 h10 hi0 hB Z (mm u) 0 (by omega) (Nat.zero_le _)

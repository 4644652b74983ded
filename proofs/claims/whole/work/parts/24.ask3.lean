set_option maxHeartbeats 4000000 in
set_option maxRecDepth 100000 in
theorem lp_tm2 {X : hz_X} (C : hz_C X mX11_two) {I : Nat → Nat → Int32} {L : Nat → Nat → Int64} {q : Nat → Nat → Nat} {u : Nat → Nat} (V : MF I u) (U : WU u) {a b : Nat} (ha : a < 8) (hb : b < 8) {j : Nat} (hj2 : j < u 64) (kk : hz_G X TT NN (I, L, PP q) 0 0 98 [some (.ref 146), some (.int (nI a)), some (.int (nI b)), some (.int (nI (nsum (tws u a b) j + csum (tw u a b j) j))), some (.int (nI j)), some (.int (nI j))] []) : ∀ (n i : Nat) , i + n = j → hz_G X TT NN (I, L, PP q) 0 0 43 [some (.ref 146), some (.int (nI a)), some (.int (nI b)), some (.int (nI (nsum (tws u a b) j + csum (tw u a b j) i))), some (.int (nI j)), some (.int (nI i))] [] := by
  intro n
  induction n with
  | zero =>
    intro i  hi 
    obtain rfl : i = j := by omega
    have hal := wu_al U
    refine hz_iload (pc := 43) C dX11_two_43 rfl ?_
    refine hz_iload (pc := 45) C dX11_two_45 rfl ?_
    refine hz_ic_ge (pc := 47) C (tgt := 98) dX11_two_47 rfl (fun _ => ?_) (fun cq => absurd (nI_le (by omega) (by omega)) cq)
    exact kk
  | succ n ih =>
    intro i  hi 
    have hal := wu_al U
    refine hz_iload (pc := 43) C dX11_two_43 rfl ?_
    refine hz_iload (pc := 45) C dX11_two_45 rfl ?_
    refine hz_ic_ge (pc := 47) C (tgt := 98) dX11_two_47 rfl (fun cq => absurd cq (nI_ge (by omega) (by omega))) (fun _ => ?_)
    refine hz_iload_n (pc := 50) C dX11_two_50 rfl ?_
    refine hz_aload_n (pc := 51) C dX11_two_51 rfl ?_
    refine hz_iload_n (pc := 52) C dX11_two_52 rfl ?_
    refine hz_iload (pc := 53) C dX11_two_53 rfl ?_
    refine hz_callVs (pc := 55) C (as := [.int (nI a), .int (nI j)]) (st := [.int (nI (nsum (tws u a b) j + csum (tw u a b j) i))]) (ev_throughBy V U (r := a) (k := j) (by omega) (by omega)) (hz_new0 _ _) fyX11_throughBy fvX11_182 rfl dX11_two_55 hT146 rfl rfl hA146 rfl rfl (Nat.le_of_ble_eq_true rfl) (by decide) (hz_cap0 _) ?_
    refine hz_aload_n (pc := 58) C dX11_two_58 rfl ?_
    refine hz_iload_n (pc := 59) C dX11_two_59 rfl ?_
    refine hz_iload (pc := 60) C dX11_two_60 rfl ?_
    refine hz_callVs (pc := 62) C (as := [.int (nI a), .int (nI i)]) (st := [.int (nI (en u a j) - 1), .int (nI (nsum (tws u a b) j + csum (tw u a b j) i))]) (ev_throughBy V U (r := a) (k := i) (by omega) (by omega)) (hz_new0 _ _) fyX11_throughBy fvX11_182 rfl dX11_two_62 hT146 rfl rfl hA146 rfl rfl (Nat.le_of_ble_eq_true rfl) (by decide) (hz_cap0 _) ?_
    refine hz_ic_ne (pc := 65) C (tgt := 85) dX11_two_65 rfl (fun c1 => ?_) (fun c1 => ?_)
    · refine hz_iconst (pc := 85) C (v := nI 1) dX11_two_85 (by decide +kernel) ?_
      refine hz_goto (pc := 86) C (tgt := 90) dX11_two_86 rfl ?_
      refine hz_iadd (pc := 90) C (v := nI ((nsum (tws u a b) j + csum (tw u a b j) i) + 1)) dX11_two_90 (nI_add _ _) ?_
      refine hz_istore_n (pc := 91) C (ls' := [some (.ref 146), some (.int (nI a)), some (.int (nI b)), some (.int (nI ((nsum (tws u a b) j + csum (tw u a b j) i) + 1))), some (.int (nI j)), some (.int (nI i))]) dX11_two_91 (Nat.le_of_ble_eq_true rfl) rfl ?_
      refine hz_iinc (pc := 92) C (v := nI (i + 1)) (ls' := [some (.ref 146), some (.int (nI a)), some (.int (nI b)), some (.int (nI ((nsum (tws u a b) j + csum (tw u a b j) i) + 1))), some (.int (nI j)), some (.int (nI (i + 1)))]) dX11_two_92 rfl (nI_add _ 1) rfl ?_
      refine hz_goto (pc := 95) C (tgt := 43) dX11_two_95 rfl ?_
      have h9 := ih (i + 1) (by omega)
      rw [csum_t (f := tw u a b j) (n := i) (by simp only [tw, Bool.or_eq_true, decide_eq_true_eq]; exact Or.inl (fun z => c1 ((en_eq (en_le u ha) (en_le u ha)).mpr z.symm))), ← Nat.add_assoc] at h9
      exact h9
    · refine hz_aload_n (pc := 68) C dX11_two_68 rfl ?_
      refine hz_iload_n (pc := 69) C dX11_two_69 rfl ?_
      refine hz_iload (pc := 70) C dX11_two_70 rfl ?_
      refine hz_callVs (pc := 72) C (as := [.int (nI b), .int (nI j)]) (st := [.int (nI (nsum (tws u a b) j + csum (tw u a b j) i))]) (ev_throughBy V U (r := b) (k := j) (by omega) (by omega)) (hz_new0 _ _) fyX11_throughBy fvX11_182 rfl dX11_two_72 hT146 rfl rfl hA146 rfl rfl (Nat.le_of_ble_eq_true rfl) (by decide) (hz_cap0 _) ?_
      refine hz_aload_n (pc := 75) C dX11_two_75 rfl ?_
      refine hz_iload_n (pc := 76) C dX11_two_76 rfl ?_
      refine hz_iload (pc := 77) C dX11_two_77 rfl ?_
      refine hz_callVs (pc := 79) C (as := [.int (nI b), .int (nI i)]) (st := [.int (nI (en u b j) - 1), .int (nI (nsum (tws u a b) j + csum (tw u a b j) i))]) (ev_throughBy V U (r := b) (k := i) (by omega) (by omega)) (hz_new0 _ _) fyX11_throughBy fvX11_182 rfl dX11_two_79 hT146 rfl rfl hA146 rfl rfl (Nat.le_of_ble_eq_true rfl) (by decide) (hz_cap0 _) ?_
      refine hz_ic_eq (pc := 82) C (tgt := 89) dX11_two_82 rfl (fun c2 => ?_) (fun c2 => ?_)
      · refine hz_iconst (pc := 89) C (v := nI 0) dX11_two_89 (by decide +kernel) ?_
        refine hz_iadd (pc := 90) C (v := nI ((nsum (tws u a b) j + csum (tw u a b j) i) + 0)) dX11_two_90 (nI_add _ _) ?_
        refine hz_istore_n (pc := 91) C (ls' := [some (.ref 146), some (.int (nI a)), some (.int (nI b)), some (.int (nI ((nsum (tws u a b) j + csum (tw u a b j) i) + 0))), some (.int (nI j)), some (.int (nI i))]) dX11_two_91 (Nat.le_of_ble_eq_true rfl) rfl ?_
        refine hz_iinc (pc := 92) C (v := nI (i + 1)) (ls' := [some (.ref 146), some (.int (nI a)), some (.int (nI b)), some (.int (nI ((nsum (tws u a b) j + csum (tw u a b j) i) + 0))), some (.int (nI j)), some (.int (nI (i + 1)))]) dX11_two_92 rfl (nI_add _ 1) rfl ?_
        refine hz_goto (pc := 95) C (tgt := 43) dX11_two_95 rfl ?_
        have h9 := ih (i + 1) (by omega)
        rw [csum_f (f := tw u a b j) (n := i) (by simp only [tw, Bool.or_eq_true, decide_eq_true_eq]; exact fun z => z.elim (fun y => y ((en_eq (en_le u ha) (en_le u ha)).mp c1).symm) (fun y => y ((en_eq (en_le u hb) (en_le u hb)).mp c2).symm))] at h9
        exact h9
      · refine hz_iconst (pc := 85) C (v := nI 1) dX11_two_85 (by decide +kernel) ?_
        refine hz_goto (pc := 86) C (tgt := 90) dX11_two_86 rfl ?_
        refine hz_iadd (pc := 90) C (v := nI ((nsum (tws u a b) j + csum (tw u a b j) i) + 1)) dX11_two_90 (nI_add _ _) ?_
        refine hz_istore_n (pc := 91) C (ls' := [some (.ref 146), some (.int (nI a)), some (.int (nI b)), some (.int (nI ((nsum (tws u a b) j + csum (tw u a b j) i) + 1))), some (.int (nI j)), some (.int (nI i))]) dX11_two_91 (Nat.le_of_ble_eq_true rfl) rfl ?_
        refine hz_iinc (pc := 92) C (v := nI (i + 1)) (ls' := [some (.ref 146), some (.int (nI a)), some (.int (nI b)), some (.int (nI ((nsum (tws u a b) j + csum (tw u a b j) i) + 1))), some (.int (nI j)), some (.int (nI (i + 1)))]) dX11_two_92 rfl (nI_add _ 1) rfl ?_
        refine hz_goto (pc := 95) C (tgt := 43) dX11_two_95 rfl ?_
        have h9 := ih (i + 1) (by omega)
        rw [csum_t (f := tw u a b j) (n := i) (by simp only [tw, Bool.or_eq_true, decide_eq_true_eq]; exact Or.inr (fun z => c2 ((en_eq (en_le u hb) (en_le u hb)).mpr z.symm))), ← Nat.add_assoc] at h9
        exact h9
set_option maxHeartbeats 4000000 in
set_option maxRecDepth 100000 in
theorem lp_tm1 {X : hz_X} (C : hz_C X mX11_two) {I : Nat → Nat → Int32} {L : Nat → Nat → Int64} {q : Nat → Nat → Nat} {u : Nat → Nat} (V : MF I u) (U : WU u) {a b : Nat} (ha : a < 8) (hb : b < 8) (kk : ∀ w5 : Option Value, hz_G X TT NN (I, L, PP q) 0 0 104 [some (.ref 146), some (.int (nI a)), some (.int (nI b)), some (.int (nI (nsum (tws u a b) (u 64)))), some (.int (nI (u 64))), w5] []) : ∀ (n j : Nat) (w5 : Option Value), j + n = u 64 → hz_G X TT NN (I, L, PP q) 0 0 28 [some (.ref 146), some (.int (nI a)), some (.int (nI b)), some (.int (nI (nsum (tws u a b) j))), some (.int (nI j)), w5] [] := by
  intro n
  induction n with
  | zero =>
    intro j w5 hi 
    obtain rfl : j = u 64 := by omega
    have hal := wu_al U
    refine hz_iload (pc := 28) C dX11_two_28 rfl ?_
    refine hz_aload_n (pc := 30) C dX11_two_30 rfl ?_
    refine hz_getP (pc := 31) C (v := 147) ffX11_7 dX11_two_31 hT146 hA146 rfl (hP146_0 q) (by decide) ?_
    refine hz_bipush (pc := 34) C (v := nI 64) dX11_two_34 (by decide +kernel) ?_
    refine hz_iald (pc := 36) C (v := nI (u 64)) (j := 64) dX11_two_36 hT147 hA147 rfl (by decide) (by decide) (mg V.1 (by omega) (by omega)) ?_
    refine hz_ic_ge (pc := 37) C (tgt := 104) dX11_two_37 rfl (fun _ => ?_) (fun cq => absurd (nI_le (by omega) (by omega)) cq)
    exact kk _
  | succ n ih =>
    intro j w5 hi 
    have hal := wu_al U
    refine hz_iload (pc := 28) C dX11_two_28 rfl ?_
    refine hz_aload_n (pc := 30) C dX11_two_30 rfl ?_
    refine hz_getP (pc := 31) C (v := 147) ffX11_7 dX11_two_31 hT146 hA146 rfl (hP146_0 q) (by decide) ?_
    refine hz_bipush (pc := 34) C (v := nI 64) dX11_two_34 (by decide +kernel) ?_
    refine hz_iald (pc := 36) C (v := nI (u 64)) (j := 64) dX11_two_36 hT147 hA147 rfl (by decide) (by decide) (mg V.1 (by omega) (by omega)) ?_
    refine hz_ic_ge (pc := 37) C (tgt := 104) dX11_two_37 rfl (fun cq => absurd cq (nI_ge (by omega) (by omega))) (fun _ => ?_)
    refine hz_iconst (pc := 40) C (v := nI 0) dX11_two_40 (by decide +kernel) ?_
    refine hz_istore (pc := 41) C (ls' := [some (.ref 146), some (.int (nI a)), some (.int (nI b)), some (.int (nI (nsum (tws u a b) j))), some (.int (nI j)), some (.int (nI 0))]) dX11_two_41 (Nat.le_of_ble_eq_true rfl) rfl ?_
    refine lp_tm2 C V U ha hb (j := j) (by omega) ?_ j 0 (by omega)
    refine hz_iinc (pc := 98) C (v := nI (j + 1)) (ls' := [some (.ref 146), some (.int (nI a)), some (.int (nI b)), some (.int (nI (nsum (tws u a b) j + csum (tw u a b j) j))), some (.int (nI (j + 1))), some (.int (nI j))]) dX11_two_98 rfl (nI_add _ 1) rfl ?_
    refine hz_goto (pc := 101) C (tgt := 28) dX11_two_101 rfl ?_
    exact ih (j + 1) _ (by omega)
set_option maxHeartbeats 4000000 in
set_option maxRecDepth 100000 in
theorem ev_twoM {I : Nat → Nat → Int32} {L : Nat → Nat → Int64} {q : Nat → Nat → Nat} {u : Nat → Nat} (V : MV I u) (U : WU u) {a b : Nat} (ha : a < 8) (hb : b < 8) : hz_Ev mX11_two TT NN (I, L, PP q) [.ref 146, .int (nI a), .int (nI b)] 0 0 (some (.int (nI (nsum (tws u a b) (u 64))))) TT NN (lm u I, L, PP q) := by
  have hal := wu_al U
  refine hz_Ev.intro (ls := [some (.ref 146), some (.int (nI a)), some (.int (nI b)), none, none, none]) (by decide +kernel) rfl (Nat.le_of_ble_eq_true rfl) (fun X C Z _ => ?_)
  refine hz_iload_n (pc := 0) C dX11_two_0 rfl ?_
  refine hz_callSs (pc := 1) C (as := [.int (nI a)]) (st := []) (ev_isRoomM _ (nI a)) (hz_new0 _ _) fyX11_isRoom fsX11_56 rfl dX11_two_1 rfl rfl (Nat.le_of_ble_eq_true rfl) (by decide) (hz_cap0 _) ?_
  refine hz_ifb_eq (pc := 4) C (tgt := 14) dX11_two_4 rfl (fun cq => absurd (vr ha) cq) (fun _ => ?_)
  refine hz_iload_n (pc := 7) C dX11_two_7 rfl ?_
  refine hz_callSs (pc := 8) C (as := [.int (nI b)]) (st := []) (ev_isRoomM _ (nI b)) (hz_new0 _ _) fyX11_isRoom fsX11_56 rfl dX11_two_8 rfl rfl (Nat.le_of_ble_eq_true rfl) (by decide) (hz_cap0 _) ?_
  refine hz_ifb_ne (pc := 11) C (tgt := 19) dX11_two_11 rfl (fun _ => ?_) (fun cq => absurd (vr hb) cq)
  refine hz_aload_n (pc := 19) C dX11_two_19 rfl ?_
  refine hz_callVv (pc := 20) C (as := []) (st := []) (ev_layFar V U) (hz_new0 _ _) fyX11_layFar fvX11_146 rfl dX11_two_20 hT146 rfl rfl hA146 rfl rfl (Nat.le_of_ble_eq_true rfl) (by decide) (hz_cap0 _) ?_
  refine hz_iconst (pc := 23) C (v := nI 0) dX11_two_23 (by decide +kernel) ?_
  refine hz_istore_n (pc := 24) C (ls' := [some (.ref 146), some (.int (nI a)), some (.int (nI b)), some (.int (nI 0)), none, none]) dX11_two_24 (Nat.le_of_ble_eq_true rfl) rfl ?_
  refine hz_iconst (pc := 25) C (v := nI 0) dX11_two_25 (by decide +kernel) ?_
  refine hz_istore (pc := 26) C (ls' := [some (.ref 146), some (.int (nI a)), some (.int (nI b)), some (.int (nI 0)), some (.int (nI 0)), none]) dX11_two_26 (Nat.le_of_ble_eq_true rfl) rfl ?_
  refine lp_tm1 C (mf_lm V) U ha hb (fun w5 => ?_) (u 64) 0 none (by omega)
  refine hz_iload_n (pc := 104) C dX11_two_104 rfl ?_
  exact hz_iret C Z rfl dX11_two_105 rfl rfl
theorem bes_le (f : Nat → Nat) (N : Nat) (h : ∀ i, f i ≤ N) : ∀ n, (bes f n).1 ≤ n ∧ (bes f n).2 ≤ N := by
  intro n
  induction n with
  | zero => exact ⟨Nat.le_refl _, Nat.zero_le _⟩
  | succ n ih =>
    simp only [bes]
    split
    · exact ⟨Nat.le_succ n, h n⟩
    · exact ⟨by omega, ih.2⟩
theorem bes_t {f : Nat → Nat} {n : Nat} (h : (bes f n).2 < f n) : bes f (n + 1) = (n, f n) := by simp only [bes]; rw [if_pos h]
theorem bes_f {f : Nat → Nat} {n : Nat} (h : ¬ (bes f n).2 < f n) : bes f (n + 1) = bes f n := by simp only [bes]; rw [if_neg h]
def hm (u : Nat → Nat) (r : Nat) : Nat := csum (fun k => rch u r k) (u 64)
theorem bes_1 (f : Nat → Nat) : bes f 1 = (0, f 0) := by
  by_cases h : (bes f 0).2 < f 0
  · exact bes_t h
  · rw [bes_f h]
    have h2 : ¬ 0 < f 0 := h
    show (0, 0) = (0, f 0)
    rw [show f 0 = 0 by omega]
set_option maxHeartbeats 4000000 in
set_option maxRecDepth 100000 in
theorem lp_bs {X : hz_X} (C : hz_C X mX10_beside) {I : Nat → Nat → Int32} {L : Nat → Nat → Int64} {q : Nat → Nat → Nat} {u : Nat → Nat} (V : HV 12 q I u) (U : WU u) (kk : ∀ w4 : Option Value, hz_G X TT NN (msb (decide (0 < u 64)) u I, L, PP q) 0 0 46 [some (.ref 1), some (.int (nI ((bes (hm u) 8).1))), some (.int (nI ((bes (hm u) 8).2))), some (.int (nI 8)), w4] []) : ∀ (n i : Nat) (w4 : Option Value), i + n = 8 → hz_G X TT NN (msb (decide (0 < u 64)) u I, L, PP q) 0 0 13 [some (.ref 1), some (.int (nI ((bes (hm u) i).1))), some (.int (nI ((bes (hm u) i).2))), some (.int (nI i)), w4] [] := by
  intro n
  induction n with
  | zero =>
    intro i w4 hi 
    obtain rfl : i = 8 := by omega
    skip
    refine hz_iload_n (pc := 13) C dX10_beside_13 rfl ?_
    refine hz_bipush (pc := 14) C (v := nI 8) dX10_beside_14 (by decide +kernel) ?_
    refine hz_ic_ge (pc := 16) C (tgt := 46) dX10_beside_16 rfl (fun _ => ?_) (fun cq => absurd (nI_le (by omega) (by omega)) cq)
    exact kk _
  | succ n ih =>
    intro i w4 hi 
    have hal := wu_al U
    have hb1 := bes_le (hm u) 6 (fun i => Nat.le_trans (csum_le _ _) hal) i
    have hb2 : hm u i ≤ 6 := Nat.le_trans (csum_le _ _) hal
    refine hz_iload_n (pc := 13) C dX10_beside_13 rfl ?_
    refine hz_bipush (pc := 14) C (v := nI 8) dX10_beside_14 (by decide +kernel) ?_
    refine hz_ic_ge (pc := 16) C (tgt := 46) dX10_beside_16 rfl (fun cq => absurd cq (nI_ge (by omega) (by omega))) (fun _ => ?_)
    refine hz_aload_n (pc := 19) C dX10_beside_19 rfl ?_
    refine hz_getP (pc := 20) C (v := 12) ffX10_26 dX10_beside_20 hT1 hA1 rfl (hP1_4 q) (by decide) ?_
    refine hz_iload_n (pc := 23) C dX10_beside_23 rfl ?_
    refine hz_callVs (pc := 24) C (as := [.int (nI i)]) (st := []) ((by have h9 := ev_howMany (L := L) (hv_msb V U (decide (0 < u 64))) U (r := i) (by omega); rw [msb_msb, Bool.or_self] at h9; exact h9)) (hz_new0 _ _) fyX2_howManyReach fvX10_216 rfl dX10_beside_24 hT12 rfl rfl hA12 rfl rfl (Nat.le_of_ble_eq_true rfl) (by decide) (hz_cap0 _) ?_
    refine hz_istore (pc := 27) C (ls' := [some (.ref 1), some (.int (nI ((bes (hm u) i).1))), some (.int (nI ((bes (hm u) i).2))), some (.int (nI i)), some (.int (nI (hm u i)))]) dX10_beside_27 (Nat.le_of_ble_eq_true rfl) rfl ?_
    refine hz_iload (pc := 29) C dX10_beside_29 rfl ?_
    refine hz_iload_n (pc := 31) C dX10_beside_31 rfl ?_
    refine hz_ic_le (pc := 32) C (tgt := 40) dX10_beside_32 rfl (fun c1 => ?_) (fun c1 => ?_)
    · refine hz_iinc (pc := 40) C (v := nI (i + 1)) (ls' := [some (.ref 1), some (.int (nI ((bes (hm u) i).1))), some (.int (nI ((bes (hm u) i).2))), some (.int (nI (i + 1))), some (.int (nI (hm u i)))]) dX10_beside_40 rfl (nI_add _ 1) rfl ?_
      refine hz_goto (pc := 43) C (tgt := 13) dX10_beside_43 rfl ?_
      have h9 := ih (i + 1) (some (.int (nI (hm u i)))) (by omega)
      rw [bes_f (f := hm u) (n := i) (fun z => nI_ge z (by omega) c1)] at h9
      exact h9
    · refine hz_iload_n (pc := 35) C dX10_beside_35 rfl ?_
      refine hz_istore_n (pc := 36) C (ls' := [some (.ref 1), some (.int (nI i)), some (.int (nI ((bes (hm u) i).2))), some (.int (nI i)), some (.int (nI (hm u i)))]) dX10_beside_36 (Nat.le_of_ble_eq_true rfl) rfl ?_
      refine hz_iload (pc := 37) C dX10_beside_37 rfl ?_
      refine hz_istore_n (pc := 39) C (ls' := [some (.ref 1), some (.int (nI i)), some (.int (nI (hm u i))), some (.int (nI i)), some (.int (nI (hm u i)))]) dX10_beside_39 (Nat.le_of_ble_eq_true rfl) rfl ?_
      refine hz_iinc (pc := 40) C (v := nI (i + 1)) (ls' := [some (.ref 1), some (.int (nI i)), some (.int (nI (hm u i))), some (.int (nI (i + 1))), some (.int (nI (hm u i)))]) dX10_beside_40 rfl (nI_add _ 1) rfl ?_
      refine hz_goto (pc := 43) C (tgt := 13) dX10_beside_43 rfl ?_
      have h9 := ih (i + 1) (some (.int (nI (hm u i)))) (by omega)
      rw [bes_t (f := hm u) (n := i) (Nat.lt_of_not_le fun z => c1 (nI_le z (by omega)))] at h9
      exact h9
set_option maxHeartbeats 4000000 in
set_option maxRecDepth 100000 in
theorem ev_beside {I : Nat → Nat → Int32} {L : Nat → Nat → Int64} {q : Nat → Nat → Nat} {u : Nat → Nat} (V : HV 12 q I u) (U : WU u) : hz_Ev mX10_beside TT NN (I, L, PP q) [.ref 1] 0 0 (some (.int (nI ((bes (hm u) 8).1)))) TT NN (msb (decide (0 < u 64)) u I, L, PP q) := by
  refine hz_Ev.intro (ls := [some (.ref 1), none, none, none, none]) (by decide +kernel) rfl (Nat.le_of_ble_eq_true rfl) (fun X C Z _ => ?_)
  refine hz_iconst (pc := 0) C (v := nI 0) dX10_beside_0 (by decide +kernel) ?_
  refine hz_istore_n (pc := 1) C (ls' := [some (.ref 1), some (.int (nI 0)), none, none, none]) dX10_beside_1 (Nat.le_of_ble_eq_true rfl) rfl ?_
  refine hz_aload_n (pc := 2) C dX10_beside_2 rfl ?_
  refine hz_getP (pc := 3) C (v := 12) ffX10_26 dX10_beside_3 hT1 hA1 rfl (hP1_4 q) (by decide) ?_
  refine hz_iconst (pc := 6) C (v := nI 0) dX10_beside_6 (by decide +kernel) ?_
  refine hz_callVs (pc := 7) C (as := [.int (nI 0)]) (st := []) (ev_howMany (L := L) V U (r := 0) (by omega)) (hz_new0 _ _) fyX2_howManyReach fvX10_216 rfl dX10_beside_7 hT12 rfl rfl hA12 rfl rfl (Nat.le_of_ble_eq_true rfl) (by decide) (hz_cap0 _) ?_
  refine hz_istore_n (pc := 10) C (ls' := [some (.ref 1), some (.int (nI 0)), some (.int (nI (hm u 0))), none, none]) dX10_beside_10 (Nat.le_of_ble_eq_true rfl) rfl ?_
  refine hz_iconst (pc := 11) C (v := nI 1) dX10_beside_11 (by decide +kernel) ?_
  refine hz_istore_n (pc := 12) C (ls' := [some (.ref 1), some (.int (nI 0)), some (.int (nI (hm u 0))), some (.int (nI 1)), none]) dX10_beside_12 (Nat.le_of_ble_eq_true rfl) rfl ?_
  have h9 := lp_bs C V U (L := L) (q := q) (I := I) (fun w4 => ?_) 7 1 none (by omega)
  · rw [bes_1] at h9
    exact h9
  refine hz_iload_n (pc := 46) C dX10_beside_46 rfl ?_
  exact hz_iret C Z rfl dX10_beside_47 rfl rfl
set_option maxHeartbeats 4000000 in
set_option maxRecDepth 100000 in
theorem lp_bm2 {X : hz_X} (C : hz_C X mX11_beside) {I : Nat → Nat → Int32} {L : Nat → Nat → Int64} {q : Nat → Nat → Nat} {u : Nat → Nat} (V : MF I u) (U : WU u) {r : Nat} (hr : r < 8) {w1 w2 : Option Value} (kk : hz_G X TT NN (I, L, PP q) 0 0 60 [some (.ref 146), w1, w2, some (.int (nI r)), some (.int (nI (csum (fun k => rch u r k) (u 64)))), some (.int (nI (u 64)))] []) : ∀ (n i : Nat) , i + n = u 64 → hz_G X TT NN (I, L, PP q) 0 0 22 [some (.ref 146), w1, w2, some (.int (nI r)), some (.int (nI (csum (fun k => rch u r k) i))), some (.int (nI i))] [] := by
  intro n
  induction n with
  | zero =>
    intro i  hi 
    obtain rfl : i = u 64 := by omega
    have hal := wu_al U
    refine hz_iload (pc := 22) C dX11_beside_22 rfl ?_
    refine hz_aload_n (pc := 24) C dX11_beside_24 rfl ?_
    refine hz_getP (pc := 25) C (v := 147) ffX11_7 dX11_beside_25 hT146 hA146 rfl (hP146_0 q) (by decide) ?_
    refine hz_bipush (pc := 28) C (v := nI 64) dX11_beside_28 (by decide +kernel) ?_
    refine hz_iald (pc := 30) C (v := nI (u 64)) (j := 64) dX11_beside_30 hT147 hA147 rfl (by decide) (by decide) (mg V.1 (by omega) (by omega)) ?_
    refine hz_ic_ge (pc := 31) C (tgt := 60) dX11_beside_31 rfl (fun _ => ?_) (fun cq => absurd (nI_le (by omega) (by omega)) cq)
    exact kk
  | succ n ih =>
    intro i  hi 
    have hal := wu_al U
    refine hz_iload (pc := 22) C dX11_beside_22 rfl ?_
    refine hz_aload_n (pc := 24) C dX11_beside_24 rfl ?_
    refine hz_getP (pc := 25) C (v := 147) ffX11_7 dX11_beside_25 hT146 hA146 rfl (hP146_0 q) (by decide) ?_
    refine hz_bipush (pc := 28) C (v := nI 64) dX11_beside_28 (by decide +kernel) ?_
    refine hz_iald (pc := 30) C (v := nI (u 64)) (j := 64) dX11_beside_30 hT147 hA147 rfl (by decide) (by decide) (mg V.1 (by omega) (by omega)) ?_
    refine hz_ic_ge (pc := 31) C (tgt := 60) dX11_beside_31 rfl (fun cq => absurd cq (nI_ge (by omega) (by omega))) (fun _ => ?_)
    refine hz_iload (pc := 34) C dX11_beside_34 rfl ?_
    refine hz_aload_n (pc := 36) C dX11_beside_36 rfl ?_
    refine hz_iload_n (pc := 37) C dX11_beside_37 rfl ?_
    refine hz_iload (pc := 38) C dX11_beside_38 rfl ?_
    refine hz_callVs (pc := 40) C (as := [.int (nI r), .int (nI i)]) (st := [.int (nI (csum (fun k => rch u r k) i))]) (ev_reachesM V U (k := i) (by omega) (r := r) (by omega)) (hz_new0 _ _) fyX11_reaches fvX11_179 rfl dX11_beside_40 hT146 rfl rfl hA146 rfl rfl (Nat.le_of_ble_eq_true rfl) (by decide) (hz_cap0 _) ?_
    refine hz_ifb_eq (pc := 43) C (tgt := 50) dX11_beside_43 rfl (fun c1 => ?_) (fun c1 => ?_)
    · refine hz_iconst (pc := 50) C (v := nI 0) dX11_beside_50 (by decide +kernel) ?_
      refine hz_iadd (pc := 51) C (v := nI ((csum (fun k => rch u r k) i) + 0)) dX11_beside_51 (nI_add _ _) ?_
      refine hz_istore (pc := 52) C (ls' := [some (.ref 146), w1, w2, some (.int (nI r)), some (.int (nI ((csum (fun k => rch u r k) i) + 0))), some (.int (nI i))]) dX11_beside_52 (Nat.le_of_ble_eq_true rfl) rfl ?_
      refine hz_iinc (pc := 54) C (v := nI (i + 1)) (ls' := [some (.ref 146), w1, w2, some (.int (nI r)), some (.int (nI ((csum (fun k => rch u r k) i) + 0))), some (.int (nI (i + 1)))]) dX11_beside_54 rfl (nI_add _ 1) rfl ?_
      refine hz_goto (pc := 57) C (tgt := 22) dX11_beside_57 rfl ?_
      have h9 := ih (i + 1) (by omega)
      rw [csum_f (f := (fun k => rch u r k)) (n := i) c1] at h9
      exact h9
    · refine hz_iconst (pc := 46) C (v := nI 1) dX11_beside_46 (by decide +kernel) ?_
      refine hz_goto (pc := 47) C (tgt := 51) dX11_beside_47 rfl ?_
      refine hz_iadd (pc := 51) C (v := nI ((csum (fun k => rch u r k) i) + 1)) dX11_beside_51 (nI_add _ _) ?_
      refine hz_istore (pc := 52) C (ls' := [some (.ref 146), w1, w2, some (.int (nI r)), some (.int (nI ((csum (fun k => rch u r k) i) + 1))), some (.int (nI i))]) dX11_beside_52 (Nat.le_of_ble_eq_true rfl) rfl ?_
      refine hz_iinc (pc := 54) C (v := nI (i + 1)) (ls' := [some (.ref 146), w1, w2, some (.int (nI r)), some (.int (nI ((csum (fun k => rch u r k) i) + 1))), some (.int (nI (i + 1)))]) dX11_beside_54 rfl (nI_add _ 1) rfl ?_
      refine hz_goto (pc := 57) C (tgt := 22) dX11_beside_57 rfl ?_
      have h9 := ih (i + 1) (by omega)
      rw [csum_t (f := (fun k => rch u r k)) (n := i) c1] at h9
      exact h9
set_option maxHeartbeats 4000000 in
set_option maxRecDepth 100000 in
theorem lp_bm1 {X : hz_X} (C : hz_C X mX11_beside) {I : Nat → Nat → Int32} {L : Nat → Nat → Int64} {q : Nat → Nat → Nat} {u : Nat → Nat} (V : MF I u) (U : WU u) (kk : ∀ w4 w5 : Option Value, hz_G X TT NN (I, L, PP q) 0 0 91 [some (.ref 146), some (.int (nI ((bes (hm u) 8).1))), some (.int (nI ((bes (hm u) 8).2))), some (.int (nI 8)), w4, w5] []) : ∀ (n i : Nat) (w4 w5 : Option Value), i + n = 8 → hz_G X TT NN (I, L, PP q) 0 0 10 [some (.ref 146), some (.int (nI ((bes (hm u) i).1))), some (.int (nI ((bes (hm u) i).2))), some (.int (nI i)), w4, w5] [] := by
  intro n
  induction n with
  | zero =>
    intro i w4 w5 hi 
    obtain rfl : i = 8 := by omega
    skip
    refine hz_iload_n (pc := 10) C dX11_beside_10 rfl ?_
    refine hz_bipush (pc := 11) C (v := nI 8) dX11_beside_11 (by decide +kernel) ?_
    refine hz_ic_ge (pc := 13) C (tgt := 91) dX11_beside_13 rfl (fun _ => ?_) (fun cq => absurd (nI_le (by omega) (by omega)) cq)
    exact kk _ _
  | succ n ih =>
    intro i w4 w5 hi 
    have hal := wu_al U
    have hb1 := bes_le (hm u) 6 (fun i => Nat.le_trans (csum_le _ _) hal) i
    have hb2 : hm u i ≤ 6 := Nat.le_trans (csum_le _ _) hal
    refine hz_iload_n (pc := 10) C dX11_beside_10 rfl ?_
    refine hz_bipush (pc := 11) C (v := nI 8) dX11_beside_11 (by decide +kernel) ?_
    refine hz_ic_ge (pc := 13) C (tgt := 91) dX11_beside_13 rfl (fun cq => absurd cq (nI_ge (by omega) (by omega))) (fun _ => ?_)
    refine hz_iconst (pc := 16) C (v := nI 0) dX11_beside_16 (by decide +kernel) ?_
    refine hz_istore (pc := 17) C (ls' := [some (.ref 146), some (.int (nI ((bes (hm u) i).1))), some (.int (nI ((bes (hm u) i).2))), some (.int (nI i)), some (.int (nI 0)), w5]) dX11_beside_17 (Nat.le_of_ble_eq_true rfl) rfl ?_
    refine hz_iconst (pc := 19) C (v := nI 0) dX11_beside_19 (by decide +kernel) ?_
    refine hz_istore (pc := 20) C (ls' := [some (.ref 146), some (.int (nI ((bes (hm u) i).1))), some (.int (nI ((bes (hm u) i).2))), some (.int (nI i)), some (.int (nI 0)), some (.int (nI 0))]) dX11_beside_20 (Nat.le_of_ble_eq_true rfl) rfl ?_
    refine lp_bm2 C V U (r := i) (by omega) ?_ (u 64) 0 (by omega)
    refine hz_iload (pc := 60) C dX11_beside_60 rfl ?_
    refine hz_iload_n (pc := 62) C dX11_beside_62 rfl ?_
    refine hz_ic_le (pc := 63) C (tgt := 70) dX11_beside_63 rfl (fun c1 => ?_) (fun c1 => ?_)
    · refine hz_iload_n (pc := 70) C dX11_beside_70 rfl ?_
      refine hz_istore_n (pc := 71) C (ls' := [some (.ref 146), some (.int (nI ((bes (hm u) i).1))), some (.int (nI ((bes (hm u) i).2))), some (.int (nI i)), some (.int (nI (hm u i))), some (.int (nI (u 64)))]) dX11_beside_71 (Nat.le_of_ble_eq_true rfl) rfl ?_
      refine hz_iload (pc := 72) C dX11_beside_72 rfl ?_
      refine hz_iload_n (pc := 74) C dX11_beside_74 rfl ?_
      refine hz_ic_le (pc := 75) C (tgt := 83) dX11_beside_75 rfl (fun _ => ?_) (fun cq => absurd c1 cq)
      refine hz_iload_n (pc := 83) C dX11_beside_83 rfl ?_
      refine hz_istore_n (pc := 84) C (ls' := [some (.ref 146), some (.int (nI ((bes (hm u) i).1))), some (.int (nI ((bes (hm u) i).2))), some (.int (nI i)), some (.int (nI (hm u i))), some (.int (nI (u 64)))]) dX11_beside_84 (Nat.le_of_ble_eq_true rfl) rfl ?_
      refine hz_iinc (pc := 85) C (v := nI (i + 1)) (ls' := [some (.ref 146), some (.int (nI ((bes (hm u) i).1))), some (.int (nI ((bes (hm u) i).2))), some (.int (nI (i + 1))), some (.int (nI (hm u i))), some (.int (nI (u 64)))]) dX11_beside_85 rfl (nI_add _ 1) rfl ?_
      refine hz_goto (pc := 88) C (tgt := 10) dX11_beside_88 rfl ?_
      have h9 := ih (i + 1) (some (.int (nI (hm u i)))) (some (.int (nI (u 64)))) (by omega)
      rw [bes_f (f := hm u) (n := i) (fun z => nI_ge z (by omega) c1)] at h9
      exact h9
    · refine hz_iload_n (pc := 66) C dX11_beside_66 rfl ?_
      refine hz_goto (pc := 67) C (tgt := 71) dX11_beside_67 rfl ?_
      refine hz_istore_n (pc := 71) C (ls' := [some (.ref 146), some (.int (nI i)), some (.int (nI ((bes (hm u) i).2))), some (.int (nI i)), some (.int (nI (hm u i))), some (.int (nI (u 64)))]) dX11_beside_71 (Nat.le_of_ble_eq_true rfl) rfl ?_
      refine hz_iload (pc := 72) C dX11_beside_72 rfl ?_
      refine hz_iload_n (pc := 74) C dX11_beside_74 rfl ?_
      refine hz_ic_le (pc := 75) C (tgt := 83) dX11_beside_75 rfl (fun cq => absurd cq c1) (fun _ => ?_)
      refine hz_iload (pc := 78) C dX11_beside_78 rfl ?_
      refine hz_goto (pc := 80) C (tgt := 84) dX11_beside_80 rfl ?_
      refine hz_istore_n (pc := 84) C (ls' := [some (.ref 146), some (.int (nI i)), some (.int (nI (hm u i))), some (.int (nI i)), some (.int (nI (hm u i))), some (.int (nI (u 64)))]) dX11_beside_84 (Nat.le_of_ble_eq_true rfl) rfl ?_
      refine hz_iinc (pc := 85) C (v := nI (i + 1)) (ls' := [some (.ref 146), some (.int (nI i)), some (.int (nI (hm u i))), some (.int (nI (i + 1))), some (.int (nI (hm u i))), some (.int (nI (u 64)))]) dX11_beside_85 rfl (nI_add _ 1) rfl ?_
      refine hz_goto (pc := 88) C (tgt := 10) dX11_beside_88 rfl ?_
      have h9 := ih (i + 1) (some (.int (nI (hm u i)))) (some (.int (nI (u 64)))) (by omega)
      rw [bes_t (f := hm u) (n := i) (Nat.lt_of_not_le fun z => c1 (nI_le z (by omega)))] at h9
      exact h9
set_option maxHeartbeats 4000000 in
set_option maxRecDepth 100000 in
theorem ev_besideM {I : Nat → Nat → Int32} {L : Nat → Nat → Int64} {q : Nat → Nat → Nat} {u : Nat → Nat} (V : MV I u) (U : WU u) : hz_Ev mX11_beside TT NN (I, L, PP q) [.ref 146] 0 0 (some (.int (nI ((bes (hm u) 8).1)))) TT NN (lm u I, L, PP q) := by
  refine hz_Ev.intro (ls := [some (.ref 146), none, none, none, none, none]) (by decide +kernel) rfl (Nat.le_of_ble_eq_true rfl) (fun X C Z _ => ?_)
  refine hz_aload_n (pc := 0) C dX11_beside_0 rfl ?_
  refine hz_callVv (pc := 1) C (as := []) (st := []) (ev_layFar V U) (hz_new0 _ _) fyX11_layFar fvX11_146 rfl dX11_beside_1 hT146 rfl rfl hA146 rfl rfl (Nat.le_of_ble_eq_true rfl) (by decide) (hz_cap0 _) ?_
  refine hz_iconst (pc := 4) C (v := nI 0) dX11_beside_4 (by decide +kernel) ?_
  refine hz_istore_n (pc := 5) C (ls' := [some (.ref 146), some (.int (nI 0)), none, none, none, none]) dX11_beside_5 (Nat.le_of_ble_eq_true rfl) rfl ?_
  refine hz_iconst (pc := 6) C (v := nI 0) dX11_beside_6 (by decide +kernel) ?_
  refine hz_istore_n (pc := 7) C (ls' := [some (.ref 146), some (.int (nI 0)), some (.int (nI 0)), none, none, none]) dX11_beside_7 (Nat.le_of_ble_eq_true rfl) rfl ?_
  refine hz_iconst (pc := 8) C (v := nI 0) dX11_beside_8 (by decide +kernel) ?_
  refine hz_istore_n (pc := 9) C (ls' := [some (.ref 146), some (.int (nI 0)), some (.int (nI 0)), some (.int (nI 0)), none, none]) dX11_beside_9 (Nat.le_of_ble_eq_true rfl) rfl ?_
  refine lp_bm1 C (mf_lm V) U (fun w4 w5 => ?_) 8 0 none none (by omega)
  refine hz_iload_n (pc := 91) C dX11_beside_91 rfl ?_
  exact hz_iret C Z rfl dX11_beside_92 rfl rfl

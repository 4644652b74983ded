def ff (f : Nat → Bool) : Nat → Nat → Nat
  | 0, _ => 0
  | n + 1, i => if f i = true then i + 1 else ff f n (i + 1)
theorem ff_t {f : Nat → Bool} {n i : Nat} (h : f i = true) : ff f (n + 1) i = i + 1 := by simp only [ff]; rw [if_pos h]
theorem ff_f {f : Nat → Bool} {n i : Nat} (h : ¬ f i = true) : ff f (n + 1) i = ff f n (i + 1) := by simp only [ff]; rw [if_neg h]
def nsum (f : Nat → Nat) : Nat → Nat
  | 0 => 0
  | n + 1 => nsum f n + f n
/-- the pairs that two listeners tell apart -/
def tw (u : Nat → Nat) (a b j i : Nat) : Bool := decide (¬ en u a i = en u a j) || decide (¬ en u b i = en u b j)
def tws (u : Nat → Nat) (a b j : Nat) : Nat := csum (tw u a b j) j
theorem nsum_le (f : Nat → Nat) (h : ∀ i, f i ≤ i) : ∀ n, nsum f n ≤ n * n := by
  intro n
  induction n with
  | zero => exact Nat.zero_le _
  | succ n ih => have := h n; simp only [nsum, Nat.succ_mul, Nat.mul_succ]; omega
/-- the room with most, the least of like ones -/
def bes (f : Nat → Nat) : Nat → Nat × Nat
  | 0 => (0, 0)
  | n + 1 => if (bes f n).2 < f n then (n, f n) else bes f n
set_option maxHeartbeats 4000000 in
set_option maxRecDepth 100000 in
theorem lp_cdc {X : hz_X} (C : hz_C X mX10_coldest) {I : Nat → Nat → Int32} {L : Nat → Nat → Int64} {q : Nat → Nat → Nat} {u : Nat → Nat} (V : HV 12 q I u) (U : WU u) {k : Nat} (hk : k < u 64) (Z : hz_Z X 0 0 (some (.int (nI (ff (fun c => so_ev (u (65 + k)) (nI c) (nI (u (94 + k)))) 10 0) - 1))) TT NN (I, L, PP q))  : ∀ (n i : Nat) , i + n = 10 → ff (fun c => so_ev (u (65 + k)) (nI c) (nI (u (94 + k)))) 10 0 = ff (fun c => so_ev (u (65 + k)) (nI c) (nI (u (94 + k)))) n i → hz_G X TT NN (I, L, PP q) 0 0 15 [some (.ref 1), some (.int (nI k)), some (.int (nI i))] [] := by
  intro n
  induction n with
  | zero =>
    intro i  hi hf
    obtain rfl : i = 10 := by omega
    have hal := wu_al U
    have hkd := wu_kd U hk
    have hba := wu_ba U hk
    refine hz_iload_n (pc := 15) C dX10_coldest_15 rfl ?_
    refine hz_bipush (pc := 16) C (v := nI 9) dX10_coldest_16 (by decide +kernel) ?_
    refine hz_ic_gt (pc := 18) C (tgt := 56) dX10_coldest_18 rfl (fun _ => ?_) (fun cq => absurd (nI_lt (by omega) (by omega)) cq)
    refine hz_iconst (pc := 56) C (v := (-1 : Int32)) dX10_coldest_56 (by decide +kernel) ?_
    exact hz_iret C Z rfl dX10_coldest_57 (by rw [hf]; show (-1 : Int32) = nI 0 - 1; decide +kernel) rfl
  | succ n ih =>
    intro i  hi hf
    have hal := wu_al U
    have hkd := wu_kd U hk
    have hba := wu_ba U hk
    refine hz_iload_n (pc := 15) C dX10_coldest_15 rfl ?_
    refine hz_bipush (pc := 16) C (v := nI 9) dX10_coldest_16 (by decide +kernel) ?_
    refine hz_ic_gt (pc := 18) C (tgt := 56) dX10_coldest_18 rfl (fun cq => absurd cq (nI_nlt (by omega) (by omega))) (fun _ => ?_)
    refine hz_aload_n (pc := 21) C dX10_coldest_21 rfl ?_
    refine hz_getP (pc := 22) C (v := 12) ffX10_26 dX10_coldest_22 hT1 hA1 rfl (hP1_4 q) (by decide) ?_
    refine hz_iload_n (pc := 25) C dX10_coldest_25 rfl ?_
    refine hz_callVs (pc := 26) C (as := [.int (nI k)]) (st := []) (ev_kindOf V U (k := k) (by omega)) (hz_new0 _ _) fyX2_kindOf fvX10_152 rfl dX10_coldest_26 hT12 rfl rfl hA12 rfl rfl (Nat.le_of_ble_eq_true rfl) (by decide) (hz_cap0 _) ?_
    refine hz_iload_n (pc := 29) C dX10_coldest_29 rfl ?_
    refine hz_aload_n (pc := 30) C dX10_coldest_30 rfl ?_
    refine hz_getP (pc := 31) C (v := 12) ffX10_26 dX10_coldest_31 hT1 hA1 rfl (hP1_4 q) (by decide) ?_
    refine hz_getP (pc := 34) C (v := 19) ffX10_102 dX10_coldest_34 hT12 hA12 rfl (hP12_7 q) (by decide) ?_
    refine hz_getP (pc := 37) C (v := 20) ffX10_134 dX10_coldest_37 hT19 hA19 rfl (hP19_0 q) (by decide) ?_
    refine hz_iload_n (pc := 40) C dX10_coldest_40 rfl ?_
    refine hz_iald (pc := 41) C (v := nI (u (94 + k))) (j := k) dX10_coldest_41 hT20 hA20 rfl (by omega) (by decide) (hv_ba V (by omega)) ?_
    refine kc_ev (pc := 42) (k := u (65 + k)) (st := []) C fvX10_171_X6 fvX10_171_X4 fvX10_171_X9 fvX10_171_X0 fvX10_171_X5 fvX10_171_X1 (by omega) dX10_coldest_42 rfl (Nat.le_of_ble_eq_true rfl) (by decide) ?_
    refine hz_ifb_eq (pc := 45) C (tgt := 50) dX10_coldest_45 rfl (fun c1 => ?_) (fun c1 => ?_)
    · refine hz_iinc (pc := 50) C (v := nI (i + 1)) (ls' := [some (.ref 1), some (.int (nI k)), some (.int (nI (i + 1)))]) dX10_coldest_50 rfl (nI_add _ 1) rfl ?_
      refine hz_goto (pc := 53) C (tgt := 15) dX10_coldest_53 rfl ?_
      exact ih (i + 1) (by omega) (by rw [hf, ff_f c1])
    · refine hz_iload_n (pc := 48) C dX10_coldest_48 rfl ?_
      exact hz_iret C Z rfl dX10_coldest_49 (by rw [hf, ff_t c1, en_m1]) rfl
set_option maxHeartbeats 4000000 in
set_option maxRecDepth 100000 in
theorem ev_coldest {I : Nat → Nat → Int32} {L : Nat → Nat → Int64} {q : Nat → Nat → Nat} {u : Nat → Nat} (V : HV 12 q I u) (U : WU u) {k : Nat} (hk : k < u 64) : hz_Ev mX10_coldest TT NN (I, L, PP q) [.ref 1, .int (nI k)] 0 0 (some (.int (nI (ff (fun c => so_ev (u (65 + k)) (nI c) (nI (u (94 + k)))) 10 0) - 1))) TT NN (I, L, PP q) := by
  have hal := wu_al U
  have hkd := wu_kd U hk
  have hba := wu_ba U hk
  refine hz_Ev.intro (ls := [some (.ref 1), some (.int (nI k)), none]) (by decide +kernel) rfl (Nat.le_of_ble_eq_true rfl) (fun X C Z _ => ?_)
  refine hz_aload_n (pc := 0) C dX10_coldest_0 rfl ?_
  refine hz_iload_n (pc := 1) C dX10_coldest_1 rfl ?_
  refine hz_callVs (pc := 2) C (as := [.int (nI k)]) (st := []) (ev_isAlarm V U (nI k)) (hz_new0 _ _) fyX10_isAlarm fvX10_123 rfl dX10_coldest_2 hT1 rfl rfl hA1 rfl rfl (Nat.le_of_ble_eq_true rfl) (by decide) (hz_cap0 _) ?_
  refine hz_ifb_ne (pc := 5) C (tgt := 13) dX10_coldest_5 rfl (fun _ => ?_) (fun cq => absurd (vk hk hal) cq)
  refine hz_iconst (pc := 13) C (v := nI 0) dX10_coldest_13 (by decide +kernel) ?_
  refine hz_istore_n (pc := 14) C (ls' := [some (.ref 1), some (.int (nI k)), some (.int (nI 0))]) dX10_coldest_14 (Nat.le_of_ble_eq_true rfl) rfl ?_
  exact lp_cdc C V U hk Z 10 0 (by omega) rfl
set_option maxHeartbeats 4000000 in
set_option maxRecDepth 100000 in
theorem lp_cdm {X : hz_X} (C : hz_C X mX11_coldest) {I : Nat → Nat → Int32} {L : Nat → Nat → Int64} {q : Nat → Nat → Nat} {u : Nat → Nat} (V : MV I u) (U : WU u) {k : Nat} (hk : k < u 64) (Z : hz_Z X 0 0 (some (.int (nI (ff (fun c => so_ev (u (65 + k)) (nI c) (nI (u (94 + k)))) 10 0) - 1))) TT NN (I, L, PP q))  : ∀ (n i : Nat) , i + n = 10 → ff (fun c => so_ev (u (65 + k)) (nI c) (nI (u (94 + k)))) 10 0 = ff (fun c => so_ev (u (65 + k)) (nI c) (nI (u (94 + k)))) n i → hz_G X TT NN (I, L, PP q) 0 0 15 [some (.ref 146), some (.int (nI k)), some (.int (nI i))] [] := by
  intro n
  induction n with
  | zero =>
    intro i  hi hf
    obtain rfl : i = 10 := by omega
    have hal := wu_al U
    have hkd := wu_kd U hk
    have hba := wu_ba U hk
    refine hz_iload_n (pc := 15) C dX11_coldest_15 rfl ?_
    refine hz_bipush (pc := 16) C (v := nI 10) dX11_coldest_16 (by decide +kernel) ?_
    refine hz_ic_ge (pc := 18) C (tgt := 38) dX11_coldest_18 rfl (fun _ => ?_) (fun cq => absurd (nI_le (by omega) (by omega)) cq)
    refine hz_iconst (pc := 38) C (v := (-1 : Int32)) dX11_coldest_38 (by decide +kernel) ?_
    exact hz_iret C Z rfl dX11_coldest_39 (by rw [hf]; show (-1 : Int32) = nI 0 - 1; decide +kernel) rfl
  | succ n ih =>
    intro i  hi hf
    have hal := wu_al U
    have hkd := wu_kd U hk
    have hba := wu_ba U hk
    refine hz_iload_n (pc := 15) C dX11_coldest_15 rfl ?_
    refine hz_bipush (pc := 16) C (v := nI 10) dX11_coldest_16 (by decide +kernel) ?_
    refine hz_ic_ge (pc := 18) C (tgt := 38) dX11_coldest_18 rfl (fun cq => absurd cq (nI_ge (by omega) (by omega))) (fun _ => ?_)
    refine hz_aload_n (pc := 21) C dX11_coldest_21 rfl ?_
    refine hz_iload_n (pc := 22) C dX11_coldest_22 rfl ?_
    refine hz_iload_n (pc := 23) C dX11_coldest_23 rfl ?_
    refine hz_callVs (pc := 24) C (as := [.int (nI k), .int (nI i)]) (st := []) (ev_beepsEver V U (k := k) (by omega) (c := i) (by omega)) (hz_new0 _ _) fyX11_beepsEver fvX11_185 rfl dX11_coldest_24 hT146 rfl rfl hA146 rfl rfl (Nat.le_of_ble_eq_true rfl) (by decide) (hz_cap0 _) ?_
    refine hz_ifb_eq (pc := 27) C (tgt := 32) dX11_coldest_27 rfl (fun c1 => ?_) (fun c1 => ?_)
    · refine hz_iinc (pc := 32) C (v := nI (i + 1)) (ls' := [some (.ref 146), some (.int (nI k)), some (.int (nI (i + 1)))]) dX11_coldest_32 rfl (nI_add _ 1) rfl ?_
      refine hz_goto (pc := 35) C (tgt := 15) dX11_coldest_35 rfl ?_
      exact ih (i + 1) (by omega) (by rw [hf, ff_f c1])
    · refine hz_iload_n (pc := 30) C dX11_coldest_30 rfl ?_
      exact hz_iret C Z rfl dX11_coldest_31 (by rw [hf, ff_t c1, en_m1]) rfl
set_option maxHeartbeats 4000000 in
set_option maxRecDepth 100000 in
theorem ev_coldestM {I : Nat → Nat → Int32} {L : Nat → Nat → Int64} {q : Nat → Nat → Nat} {u : Nat → Nat} (V : MV I u) (U : WU u) {k : Nat} (hk : k < u 64) : hz_Ev mX11_coldest TT NN (I, L, PP q) [.ref 146, .int (nI k)] 0 0 (some (.int (nI (ff (fun c => so_ev (u (65 + k)) (nI c) (nI (u (94 + k)))) 10 0) - 1))) TT NN (I, L, PP q) := by
  have hal := wu_al U
  have hkd := wu_kd U hk
  have hba := wu_ba U hk
  refine hz_Ev.intro (ls := [some (.ref 146), some (.int (nI k)), none]) (by decide +kernel) rfl (Nat.le_of_ble_eq_true rfl) (fun X C Z _ => ?_)
  refine hz_aload_n (pc := 0) C dX11_coldest_0 rfl ?_
  refine hz_iload_n (pc := 1) C dX11_coldest_1 rfl ?_
  refine hz_callVs (pc := 2) C (as := [.int (nI k)]) (st := []) (ev_isAlarmM V U (nI k)) (hz_new0 _ _) fyX11_isAlarm fvX11_160 rfl dX11_coldest_2 hT146 rfl rfl hA146 rfl rfl (Nat.le_of_ble_eq_true rfl) (by decide) (hz_cap0 _) ?_
  refine hz_ifb_ne (pc := 5) C (tgt := 13) dX11_coldest_5 rfl (fun _ => ?_) (fun cq => absurd (vk hk hal) cq)
  refine hz_iconst (pc := 13) C (v := nI 0) dX11_coldest_13 (by decide +kernel) ?_
  refine hz_istore_n (pc := 14) C (ls' := [some (.ref 146), some (.int (nI k)), some (.int (nI 0))]) dX11_coldest_14 (Nat.le_of_ble_eq_true rfl) rfl ?_
  exact lp_cdm C V U hk Z 10 0 (by omega) rfl
set_option maxHeartbeats 4000000 in
set_option maxRecDepth 100000 in
theorem ev_coldestX {I : Nat → Nat → Int32} {L : Nat → Nat → Int64} {q : Nat → Nat → Nat} {u : Nat → Nat} (V : HV 12 q I u) (U : WU u) (v1 : Int32) (hb : ¬ ((¬ v1 < nI 0 ∧ ¬ nI (u 64) - nI 1 < v1))) : hz_Ev mX10_coldest TT NN (I, L, PP q) [.ref 1, .int v1] 0 0 (some (.int (-2 : Int32))) TT NN (hz_up I 1 8 ((I 1 8) + (nI 1)), L, PP q) := by
  refine hz_Ev.intro (ls := [some (.ref 1), some (.int v1), none]) (by decide +kernel) rfl (Nat.le_of_ble_eq_true rfl) (fun X C Z _ => ?_)
  refine hz_aload_n (pc := 0) C dX10_coldest_0 rfl ?_
  refine hz_iload_n (pc := 1) C dX10_coldest_1 rfl ?_
  refine hz_callVs (pc := 2) C (as := [.int v1]) (st := []) (ev_isAlarm V U v1) (hz_new0 _ _) fyX10_isAlarm fvX10_123 rfl dX10_coldest_2 hT1 rfl rfl hA1 rfl rfl (Nat.le_of_ble_eq_true rfl) (by decide) (hz_cap0 _) ?_
  refine hz_ifb_ne (pc := 5) C (tgt := 13) dX10_coldest_5 rfl (fun c1 => ?_) (fun c1 => ?_)
  · exact absurd c1 hb
  · refine hz_aload_n (pc := 8) C dX10_coldest_8 rfl ?_
    refine hz_callVs (pc := 9) C (as := []) (st := []) ev_refBad (hz_new0 _ _) fyX10_refuseBad fvX10_74 rfl dX10_coldest_9 hT1 rfl rfl hA1 rfl rfl (Nat.le_of_ble_eq_true rfl) (by decide) (hz_cap0 _) ?_
    exact hz_iret C Z rfl dX10_coldest_12 rfl rfl
set_option maxHeartbeats 4000000 in
set_option maxRecDepth 100000 in
theorem ev_coldestXM {I : Nat → Nat → Int32} {L : Nat → Nat → Int64} {q : Nat → Nat → Nat} {u : Nat → Nat} (V : MV I u) (U : WU u) (v1 : Int32) (hb : ¬ ((¬ v1 < nI 0 ∧ ¬ nI (u 64) - nI 1 < v1))) : hz_Ev mX11_coldest TT NN (I, L, PP q) [.ref 146, .int v1] 0 0 (some (.int (-2 : Int32))) TT NN (hz_up I 151 0 ((I 151 0) + (nI 1)), L, PP q) := by
  refine hz_Ev.intro (ls := [some (.ref 146), some (.int v1), none]) (by decide +kernel) rfl (Nat.le_of_ble_eq_true rfl) (fun X C Z _ => ?_)
  refine hz_aload_n (pc := 0) C dX11_coldest_0 rfl ?_
  refine hz_iload_n (pc := 1) C dX11_coldest_1 rfl ?_
  refine hz_callVs (pc := 2) C (as := [.int v1]) (st := []) (ev_isAlarmM V U v1) (hz_new0 _ _) fyX11_isAlarm fvX11_160 rfl dX11_coldest_2 hT146 rfl rfl hA146 rfl rfl (Nat.le_of_ble_eq_true rfl) (by decide) (hz_cap0 _) ?_
  refine hz_ifb_ne (pc := 5) C (tgt := 13) dX11_coldest_5 rfl (fun c1 => ?_) (fun c1 => ?_)
  · exact absurd c1 hb
  · refine hz_aload_n (pc := 8) C dX11_coldest_8 rfl ?_
    refine hz_callVs (pc := 9) C (as := []) (st := []) ev_bad (hz_new0 _ _) fyX11_bad fvX11_60 rfl dX11_coldest_9 hT146 rfl rfl hA146 rfl rfl (Nat.le_of_ble_eq_true rfl) (by decide) (hz_cap0 _) ?_
    exact hz_iret C Z rfl dX11_coldest_12 rfl rfl
set_option maxHeartbeats 4000000 in
set_option maxRecDepth 100000 in
theorem ev_beepsX {I : Nat → Nat → Int32} {L : Nat → Nat → Int64} {q : Nat → Nat → Nat} {u : Nat → Nat} (V : HV 12 q I u) (U : WU u) (v1 v2 : Int32) (hb : ¬ ((¬ v1 < nI 0 ∧ ¬ nI (u 64) - nI 1 < v1) ∧ (¬ v2 < nI 0 ∧ ¬ nI 9999 < v2))) : hz_Ev mX10_beeps TT NN (I, L, PP q) [.ref 1, .int v1, .int v2] 0 0 (some (.int (-2 : Int32))) TT NN (hz_up I 1 8 ((I 1 8) + (nI 1)), L, PP q) := by
  refine hz_Ev.intro (ls := [some (.ref 1), some (.int v1), some (.int v2)]) (by decide +kernel) rfl (Nat.le_of_ble_eq_true rfl) (fun X C Z _ => ?_)
  refine hz_aload_n (pc := 0) C dX10_beeps_0 rfl ?_
  refine hz_iload_n (pc := 1) C dX10_beeps_1 rfl ?_
  refine hz_callVs (pc := 2) C (as := [.int v1]) (st := []) (ev_isAlarm V U v1) (hz_new0 _ _) fyX10_isAlarm fvX10_123 rfl dX10_beeps_2 hT1 rfl rfl hA1 rfl rfl (Nat.le_of_ble_eq_true rfl) (by decide) (hz_cap0 _) ?_
  refine hz_ifb_eq (pc := 5) C (tgt := 15) dX10_beeps_5 rfl (fun c1 => ?_) (fun c1 => ?_)
  · refine hz_aload_n (pc := 15) C dX10_beeps_15 rfl ?_
    refine hz_callVs (pc := 16) C (as := []) (st := []) ev_refBad (hz_new0 _ _) fyX10_refuseBad fvX10_74 rfl dX10_beeps_16 hT1 rfl rfl hA1 rfl rfl (Nat.le_of_ble_eq_true rfl) (by decide) (hz_cap0 _) ?_
    exact hz_iret C Z rfl dX10_beeps_19 rfl rfl
  · refine hz_iload_n (pc := 8) C dX10_beeps_8 rfl ?_
    refine hz_callSs (pc := 9) C (as := [.int v2]) (st := []) (ev_isSecond _ v2) (hz_new0 _ _) fyX10_isSecond fsX10_161 rfl dX10_beeps_9 rfl rfl (Nat.le_of_ble_eq_true rfl) (by decide) (hz_cap0 _) ?_
    refine hz_ifb_ne (pc := 12) C (tgt := 20) dX10_beeps_12 rfl (fun c2 => ?_) (fun c2 => ?_)
    · exact absurd ⟨c1, c2⟩ hb
    · refine hz_aload_n (pc := 15) C dX10_beeps_15 rfl ?_
      refine hz_callVs (pc := 16) C (as := []) (st := []) ev_refBad (hz_new0 _ _) fyX10_refuseBad fvX10_74 rfl dX10_beeps_16 hT1 rfl rfl hA1 rfl rfl (Nat.le_of_ble_eq_true rfl) (by decide) (hz_cap0 _) ?_
      exact hz_iret C Z rfl dX10_beeps_19 rfl rfl
set_option maxHeartbeats 4000000 in
set_option maxRecDepth 100000 in
theorem ev_beepsXM {I : Nat → Nat → Int32} {L : Nat → Nat → Int64} {q : Nat → Nat → Nat} {u : Nat → Nat} (V : MV I u) (U : WU u) (v1 v2 : Int32) (hb : ¬ ((¬ v1 < nI 0 ∧ ¬ nI (u 64) - nI 1 < v1) ∧ (¬ v2 < nI 0 ∧ ¬ nI 9999 < v2))) : hz_Ev mX11_beeps TT NN (I, L, PP q) [.ref 146, .int v1, .int v2] 0 0 (some (.int (-2 : Int32))) TT NN (hz_up I 151 0 ((I 151 0) + (nI 1)), L, PP q) := by
  refine hz_Ev.intro (ls := [some (.ref 146), some (.int v1), some (.int v2)]) (by decide +kernel) rfl (Nat.le_of_ble_eq_true rfl) (fun X C Z _ => ?_)
  refine hz_aload_n (pc := 0) C dX11_beeps_0 rfl ?_
  refine hz_iload_n (pc := 1) C dX11_beeps_1 rfl ?_
  refine hz_callVs (pc := 2) C (as := [.int v1]) (st := []) (ev_isAlarmM V U v1) (hz_new0 _ _) fyX11_isAlarm fvX11_160 rfl dX11_beeps_2 hT146 rfl rfl hA146 rfl rfl (Nat.le_of_ble_eq_true rfl) (by decide) (hz_cap0 _) ?_
  refine hz_ifb_eq (pc := 5) C (tgt := 19) dX11_beeps_5 rfl (fun c1 => ?_) (fun c1 => ?_)
  · refine hz_aload_n (pc := 19) C dX11_beeps_19 rfl ?_
    refine hz_callVs (pc := 20) C (as := []) (st := []) ev_bad (hz_new0 _ _) fyX11_bad fvX11_60 rfl dX11_beeps_20 hT146 rfl rfl hA146 rfl rfl (Nat.le_of_ble_eq_true rfl) (by decide) (hz_cap0 _) ?_
    exact hz_iret C Z rfl dX11_beeps_23 rfl rfl
  · refine hz_iload_n (pc := 8) C dX11_beeps_8 rfl ?_
    refine hz_iconst (pc := 9) C (v := nI 0) dX11_beeps_9 (by decide +kernel) ?_
    refine hz_sipush (pc := 10) C (v := nI 9999) dX11_beeps_10 (by decide +kernel) ?_
    refine hz_callSs (pc := 13) C (as := [.int v2, .int (nI 0), .int (nI 9999)]) (st := []) (ev_in _ v2 (nI 0) (nI 9999)) (hz_new0 _ _) fyX11_in fsX11_52 rfl dX11_beeps_13 rfl rfl (Nat.le_of_ble_eq_true rfl) (by decide) (hz_cap0 _) ?_
    refine hz_ifb_ne (pc := 16) C (tgt := 24) dX11_beeps_16 rfl (fun c2 => ?_) (fun c2 => ?_)
    · exact absurd ⟨c1, c2⟩ hb
    · refine hz_aload_n (pc := 19) C dX11_beeps_19 rfl ?_
      refine hz_callVs (pc := 20) C (as := []) (st := []) ev_bad (hz_new0 _ _) fyX11_bad fvX11_60 rfl dX11_beeps_20 hT146 rfl rfl hA146 rfl rfl (Nat.le_of_ble_eq_true rfl) (by decide) (hz_cap0 _) ?_
      exact hz_iret C Z rfl dX11_beeps_23 rfl rfl
set_option maxHeartbeats 4000000 in
set_option maxRecDepth 100000 in
theorem ev_twoX {I : Nat → Nat → Int32} {L : Nat → Nat → Int64} {q : Nat → Nat → Nat} {u : Nat → Nat} (V : HV 12 q I u) (U : WU u) (v1 v2 : Int32) (hb : ¬ ((¬ v1 < nI 0 ∧ ¬ nI 7 < v1) ∧ (¬ v2 < nI 0 ∧ ¬ nI 7 < v2))) : hz_Ev mX10_two TT NN (I, L, PP q) [.ref 1, .int v1, .int v2] 0 0 (some (.int (-2 : Int32))) TT NN (hz_up I 1 8 ((I 1 8) + (nI 1)), L, PP q) := by
  refine hz_Ev.intro (ls := [some (.ref 1), some (.int v1), some (.int v2), none, none, none]) (by decide +kernel) rfl (Nat.le_of_ble_eq_true rfl) (fun X C Z _ => ?_)
  refine hz_iload_n (pc := 0) C dX10_two_0 rfl ?_
  refine hz_callSs (pc := 1) C (as := [.int v1]) (st := []) (ev_isRoom _ v1) (hz_new0 _ _) fyX10_isRoom fsX10_55 rfl dX10_two_1 rfl rfl (Nat.le_of_ble_eq_true rfl) (by decide) (hz_cap0 _) ?_
  refine hz_ifb_eq (pc := 4) C (tgt := 14) dX10_two_4 rfl (fun c1 => ?_) (fun c1 => ?_)
  · refine hz_aload_n (pc := 14) C dX10_two_14 rfl ?_
    refine hz_callVs (pc := 15) C (as := []) (st := []) ev_refBad (hz_new0 _ _) fyX10_refuseBad fvX10_74 rfl dX10_two_15 hT1 rfl rfl hA1 rfl rfl (Nat.le_of_ble_eq_true rfl) (by decide) (hz_cap0 _) ?_
    exact hz_iret C Z rfl dX10_two_18 rfl rfl
  · refine hz_iload_n (pc := 7) C dX10_two_7 rfl ?_
    refine hz_callSs (pc := 8) C (as := [.int v2]) (st := []) (ev_isRoom _ v2) (hz_new0 _ _) fyX10_isRoom fsX10_55 rfl dX10_two_8 rfl rfl (Nat.le_of_ble_eq_true rfl) (by decide) (hz_cap0 _) ?_
    refine hz_ifb_ne (pc := 11) C (tgt := 19) dX10_two_11 rfl (fun c2 => ?_) (fun c2 => ?_)
    · exact absurd ⟨c1, c2⟩ hb
    · refine hz_aload_n (pc := 14) C dX10_two_14 rfl ?_
      refine hz_callVs (pc := 15) C (as := []) (st := []) ev_refBad (hz_new0 _ _) fyX10_refuseBad fvX10_74 rfl dX10_two_15 hT1 rfl rfl hA1 rfl rfl (Nat.le_of_ble_eq_true rfl) (by decide) (hz_cap0 _) ?_
      exact hz_iret C Z rfl dX10_two_18 rfl rfl
set_option maxHeartbeats 4000000 in
set_option maxRecDepth 100000 in
theorem ev_twoXM {I : Nat → Nat → Int32} {L : Nat → Nat → Int64} {q : Nat → Nat → Nat} {u : Nat → Nat} (V : MV I u) (U : WU u) (v1 v2 : Int32) (hb : ¬ ((¬ v1 < nI 0 ∧ ¬ nI 7 < v1) ∧ (¬ v2 < nI 0 ∧ ¬ nI 7 < v2))) : hz_Ev mX11_two TT NN (I, L, PP q) [.ref 146, .int v1, .int v2] 0 0 (some (.int (-2 : Int32))) TT NN (hz_up I 151 0 ((I 151 0) + (nI 1)), L, PP q) := by
  refine hz_Ev.intro (ls := [some (.ref 146), some (.int v1), some (.int v2), none, none, none]) (by decide +kernel) rfl (Nat.le_of_ble_eq_true rfl) (fun X C Z _ => ?_)
  refine hz_iload_n (pc := 0) C dX11_two_0 rfl ?_
  refine hz_callSs (pc := 1) C (as := [.int v1]) (st := []) (ev_isRoomM _ v1) (hz_new0 _ _) fyX11_isRoom fsX11_56 rfl dX11_two_1 rfl rfl (Nat.le_of_ble_eq_true rfl) (by decide) (hz_cap0 _) ?_
  refine hz_ifb_eq (pc := 4) C (tgt := 14) dX11_two_4 rfl (fun c1 => ?_) (fun c1 => ?_)
  · refine hz_aload_n (pc := 14) C dX11_two_14 rfl ?_
    refine hz_callVs (pc := 15) C (as := []) (st := []) ev_bad (hz_new0 _ _) fyX11_bad fvX11_60 rfl dX11_two_15 hT146 rfl rfl hA146 rfl rfl (Nat.le_of_ble_eq_true rfl) (by decide) (hz_cap0 _) ?_
    exact hz_iret C Z rfl dX11_two_18 rfl rfl
  · refine hz_iload_n (pc := 7) C dX11_two_7 rfl ?_
    refine hz_callSs (pc := 8) C (as := [.int v2]) (st := []) (ev_isRoomM _ v2) (hz_new0 _ _) fyX11_isRoom fsX11_56 rfl dX11_two_8 rfl rfl (Nat.le_of_ble_eq_true rfl) (by decide) (hz_cap0 _) ?_
    refine hz_ifb_ne (pc := 11) C (tgt := 19) dX11_two_11 rfl (fun c2 => ?_) (fun c2 => ?_)
    · exact absurd ⟨c1, c2⟩ hb
    · refine hz_aload_n (pc := 14) C dX11_two_14 rfl ?_
      refine hz_callVs (pc := 15) C (as := []) (st := []) ev_bad (hz_new0 _ _) fyX11_bad fvX11_60 rfl dX11_two_15 hT146 rfl rfl hA146 rfl rfl (Nat.le_of_ble_eq_true rfl) (by decide) (hz_cap0 _) ?_
      exact hz_iret C Z rfl dX11_two_18 rfl rfl
set_option maxHeartbeats 4000000 in
set_option maxRecDepth 100000 in
theorem lp_tw2 {X : hz_X} (C : hz_C X mX10_two) {I : Nat → Nat → Int32} {L : Nat → Nat → Int64} {q : Nat → Nat → Nat} {u : Nat → Nat} (V : HV 12 q I u) (U : WU u) {a b : Nat} (ha : a < 8) (hb : b < 8) {j : Nat} (hj : 1 ≤ j) (hj2 : j < u 64) (kk : hz_G X TT NN (msb (decide (1 < j ∨ 0 < j)) u I, L, PP q) 0 0 85 [some (.ref 1), some (.int (nI a)), some (.int (nI b)), some (.int (nI (nsum (tws u a b) j + csum (tw u a b j) j))), some (.int (nI j)), some (.int (nI j))] []) : ∀ (n i : Nat) , i + n = j → hz_G X TT NN (msb (decide (1 < j ∨ 0 < i)) u I, L, PP q) 0 0 39 [some (.ref 1), some (.int (nI a)), some (.int (nI b)), some (.int (nI (nsum (tws u a b) j + csum (tw u a b j) i))), some (.int (nI j)), some (.int (nI i))] [] := by
  intro n
  induction n with
  | zero =>
    intro i  hi 
    obtain rfl : i = j := by omega
    have hal := wu_al U
    refine hz_iload (pc := 39) C dX10_two_39 rfl ?_
    refine hz_iload (pc := 41) C dX10_two_41 rfl ?_
    refine hz_ic_ge (pc := 43) C (tgt := 85) dX10_two_43 rfl (fun _ => ?_) (fun cq => absurd (nI_le (by omega) (by omega)) cq)
    exact kk
  | succ n ih =>
    intro i  hi 
    have hal := wu_al U
    refine hz_iload (pc := 39) C dX10_two_39 rfl ?_
    refine hz_iload (pc := 41) C dX10_two_41 rfl ?_
    refine hz_ic_ge (pc := 43) C (tgt := 85) dX10_two_43 rfl (fun cq => absurd cq (nI_ge (by omega) (by omega))) (fun _ => ?_)
    refine hz_aload_n (pc := 46) C dX10_two_46 rfl ?_
    refine hz_getP (pc := 47) C (v := 12) ffX10_26 dX10_two_47 hT1 hA1 rfl (hP1_4 q) (by decide) ?_
    refine hz_iload_n (pc := 50) C dX10_two_50 rfl ?_
    refine hz_iload (pc := 51) C dX10_two_51 rfl ?_
    refine hz_iload (pc := 53) C dX10_two_53 rfl ?_
    refine hz_callVs (pc := 55) C (as := [.int (nI a), .int (nI i), .int (nI j)]) (st := []) ((by have h9 := ev_toldApart (L := L) (hv_msb V U (decide (1 < j ∨ 0 < i))) U (r := a) (i := i) (j := j) (by omega) (by omega) (by omega); rw [ms_msb] at h9; exact h9)) (hz_new0 _ _) fyX2_toldApart fvX10_213 rfl dX10_two_55 hT12 rfl rfl hA12 rfl rfl (Nat.le_of_ble_eq_true rfl) (by decide) (hz_cap0 _) ?_
    refine hz_ifb_ne (pc := 58) C (tgt := 76) dX10_two_58 rfl (fun c1 => ?_) (fun c1 => ?_)
    · refine hz_iinc (pc := 76) C (v := nI (nsum (tws u a b) j + csum (tw u a b j) i + 1)) (ls' := [some (.ref 1), some (.int (nI a)), some (.int (nI b)), some (.int (nI (nsum (tws u a b) j + csum (tw u a b j) i + 1))), some (.int (nI j)), some (.int (nI i))]) dX10_two_76 rfl (nI_add _ 1) rfl ?_
      refine hz_iinc (pc := 79) C (v := nI (i + 1)) (ls' := [some (.ref 1), some (.int (nI a)), some (.int (nI b)), some (.int (nI (nsum (tws u a b) j + csum (tw u a b j) i + 1))), some (.int (nI j)), some (.int (nI (i + 1)))]) dX10_two_79 rfl (nI_add _ 1) rfl ?_
      refine hz_goto (pc := 82) C (tgt := 39) dX10_two_82 rfl ?_
      have h9 := ih (i + 1) (by omega)
      rw [csum_t (f := tw u a b j) (n := i) (by simp [tw, c1]), msb_t (by simp), ← Nat.add_assoc] at h9
      exact h9
    · refine hz_aload_n (pc := 61) C dX10_two_61 rfl ?_
      refine hz_getP (pc := 62) C (v := 12) ffX10_26 dX10_two_62 hT1 hA1 rfl (hP1_4 q) (by decide) ?_
      refine hz_iload_n (pc := 65) C dX10_two_65 rfl ?_
      refine hz_iload (pc := 66) C dX10_two_66 rfl ?_
      refine hz_iload (pc := 68) C dX10_two_68 rfl ?_
      refine hz_callVs (pc := 70) C (as := [.int (nI b), .int (nI i), .int (nI j)]) (st := []) ((by have h9 := ev_toldApart (L := L) (hv_ms V U) U (r := b) (i := i) (j := j) (by omega) (by omega) (by omega); rw [ms_ms] at h9; exact h9)) (hz_new0 _ _) fyX2_toldApart fvX10_213 rfl dX10_two_70 hT12 rfl rfl hA12 rfl rfl (Nat.le_of_ble_eq_true rfl) (by decide) (hz_cap0 _) ?_
      refine hz_ifb_eq (pc := 73) C (tgt := 79) dX10_two_73 rfl (fun c2 => ?_) (fun c2 => ?_)
      · refine hz_iinc (pc := 79) C (v := nI (i + 1)) (ls' := [some (.ref 1), some (.int (nI a)), some (.int (nI b)), some (.int (nI (nsum (tws u a b) j + csum (tw u a b j) i))), some (.int (nI j)), some (.int (nI (i + 1)))]) dX10_two_79 rfl (nI_add _ 1) rfl ?_
        refine hz_goto (pc := 82) C (tgt := 39) dX10_two_82 rfl ?_
        have h9 := ih (i + 1) (by omega)
        rw [csum_f (f := tw u a b j) (n := i) (by simp only [tw, Bool.or_eq_true, decide_eq_true_eq]; exact fun z => z.elim c1 c2), msb_t (by simp)] at h9
        exact h9
      · refine hz_iinc (pc := 76) C (v := nI (nsum (tws u a b) j + csum (tw u a b j) i + 1)) (ls' := [some (.ref 1), some (.int (nI a)), some (.int (nI b)), some (.int (nI (nsum (tws u a b) j + csum (tw u a b j) i + 1))), some (.int (nI j)), some (.int (nI i))]) dX10_two_76 rfl (nI_add _ 1) rfl ?_
        refine hz_iinc (pc := 79) C (v := nI (i + 1)) (ls' := [some (.ref 1), some (.int (nI a)), some (.int (nI b)), some (.int (nI (nsum (tws u a b) j + csum (tw u a b j) i + 1))), some (.int (nI j)), some (.int (nI (i + 1)))]) dX10_two_79 rfl (nI_add _ 1) rfl ?_
        refine hz_goto (pc := 82) C (tgt := 39) dX10_two_82 rfl ?_
        have h9 := ih (i + 1) (by omega)
        rw [csum_t (f := tw u a b j) (n := i) (by simp [tw, c2]), msb_t (by simp), ← Nat.add_assoc] at h9
        exact h9
set_option maxHeartbeats 4000000 in
set_option maxRecDepth 100000 in
theorem lp_tw1 {X : hz_X} (C : hz_C X mX10_two) {I : Nat → Nat → Int32} {L : Nat → Nat → Int64} {q : Nat → Nat → Nat} {u : Nat → Nat} (V : HV 12 q I u) (U : WU u) {a b : Nat} (ha : a < 8) (hb : b < 8) (kk : ∀ w5 : Option Value, hz_G X TT NN (msb (decide (1 < (u 64))) u I, L, PP q) 0 0 91 [some (.ref 1), some (.int (nI a)), some (.int (nI b)), some (.int (nI (nsum (tws u a b) (u 64)))), some (.int (nI (u 64))), w5] []) : ∀ (n j : Nat) (w5 : Option Value), j + n = u 64 → 1 ≤ j → hz_G X TT NN (msb (decide (1 < j)) u I, L, PP q) 0 0 24 [some (.ref 1), some (.int (nI a)), some (.int (nI b)), some (.int (nI (nsum (tws u a b) j))), some (.int (nI j)), w5] [] := by
  intro n
  induction n with
  | zero =>
    intro j w5 hi hj
    obtain rfl : j = u 64 := by omega
    have hal := wu_al U
    refine hz_iload (pc := 24) C dX10_two_24 rfl ?_
    refine hz_aload_n (pc := 26) C dX10_two_26 rfl ?_
    refine hz_getP (pc := 27) C (v := 12) ffX10_26 dX10_two_27 hT1 hA1 rfl (hP1_4 q) (by decide) ?_
    refine hz_getI (pc := 30) C (v := nI (u 64)) ffX10_48 dX10_two_30 hT12 hA12 rfl (hv_al (hv_msb V U (decide (1 < (u 64))))) ?_
    refine hz_ic_ge (pc := 33) C (tgt := 91) dX10_two_33 rfl (fun _ => ?_) (fun cq => absurd (nI_le (by omega) (by omega)) cq)
    exact kk _
  | succ n ih =>
    intro j w5 hi hj
    have hal := wu_al U
    refine hz_iload (pc := 24) C dX10_two_24 rfl ?_
    refine hz_aload_n (pc := 26) C dX10_two_26 rfl ?_
    refine hz_getP (pc := 27) C (v := 12) ffX10_26 dX10_two_27 hT1 hA1 rfl (hP1_4 q) (by decide) ?_
    refine hz_getI (pc := 30) C (v := nI (u 64)) ffX10_48 dX10_two_30 hT12 hA12 rfl (hv_al (hv_msb V U (decide (1 < j)))) ?_
    refine hz_ic_ge (pc := 33) C (tgt := 91) dX10_two_33 rfl (fun cq => absurd cq (nI_ge (by omega) (by omega))) (fun _ => ?_)
    refine hz_iconst (pc := 36) C (v := nI 0) dX10_two_36 (by decide +kernel) ?_
    refine hz_istore (pc := 37) C (ls' := [some (.ref 1), some (.int (nI a)), some (.int (nI b)), some (.int (nI (nsum (tws u a b) j))), some (.int (nI j)), some (.int (nI 0))]) dX10_two_37 (Nat.le_of_ble_eq_true rfl) rfl ?_
    refine Eq.mp (by rw [show (decide (1 < j)) = decide (1 < j ∨ 0 < 0) by simp]; rfl) (?_ : hz_G X TT NN (msb (decide (1 < j ∨ 0 < 0)) u I, L, PP q) 0 0 39 [some (.ref 1), some (.int (nI a)), some (.int (nI b)), some (.int (nI (nsum (tws u a b) j + csum (tw u a b j) 0))), some (.int (nI j)), some (.int (nI 0))] [])
    refine lp_tw2 C V U ha hb hj (by omega) ?_ j 0 (by omega)
    refine hz_iinc (pc := 85) C (v := nI (j + 1)) (ls' := [some (.ref 1), some (.int (nI a)), some (.int (nI b)), some (.int (nI (nsum (tws u a b) j + csum (tw u a b j) j))), some (.int (nI (j + 1))), some (.int (nI j))]) dX10_two_85 rfl (nI_add _ 1) rfl ?_
    refine hz_goto (pc := 88) C (tgt := 24) dX10_two_88 rfl ?_
    have h9 := ih (j + 1) (some (.int (nI j))) (by omega) (by omega)
    rw [msb_t (by simp; omega)] at h9
    rw [msb_t (by simp; omega)]
    exact h9
set_option maxHeartbeats 4000000 in
set_option maxRecDepth 100000 in
theorem ev_two {I : Nat → Nat → Int32} {L : Nat → Nat → Int64} {q : Nat → Nat → Nat} {u : Nat → Nat} (V : HV 12 q I u) (U : WU u) {a b : Nat} (ha : a < 8) (hb : b < 8) : hz_Ev mX10_two TT NN (I, L, PP q) [.ref 1, .int (nI a), .int (nI b)] 0 0 (some (.int (nI (nsum (tws u a b) (u 64))))) TT NN (msb (decide (1 < u 64)) u I, L, PP q) := by
  have hal := wu_al U
  refine hz_Ev.intro (ls := [some (.ref 1), some (.int (nI a)), some (.int (nI b)), none, none, none]) (by decide +kernel) rfl (Nat.le_of_ble_eq_true rfl) (fun X C Z _ => ?_)
  refine hz_iload_n (pc := 0) C dX10_two_0 rfl ?_
  refine hz_callSs (pc := 1) C (as := [.int (nI a)]) (st := []) (ev_isRoom _ (nI a)) (hz_new0 _ _) fyX10_isRoom fsX10_55 rfl dX10_two_1 rfl rfl (Nat.le_of_ble_eq_true rfl) (by decide) (hz_cap0 _) ?_
  refine hz_ifb_eq (pc := 4) C (tgt := 14) dX10_two_4 rfl (fun cq => absurd (vr ha) cq) (fun _ => ?_)
  refine hz_iload_n (pc := 7) C dX10_two_7 rfl ?_
  refine hz_callSs (pc := 8) C (as := [.int (nI b)]) (st := []) (ev_isRoom _ (nI b)) (hz_new0 _ _) fyX10_isRoom fsX10_55 rfl dX10_two_8 rfl rfl (Nat.le_of_ble_eq_true rfl) (by decide) (hz_cap0 _) ?_
  refine hz_ifb_ne (pc := 11) C (tgt := 19) dX10_two_11 rfl (fun _ => ?_) (fun cq => absurd (vr hb) cq)
  refine hz_iconst (pc := 19) C (v := nI 0) dX10_two_19 (by decide +kernel) ?_
  refine hz_istore_n (pc := 20) C (ls' := [some (.ref 1), some (.int (nI a)), some (.int (nI b)), some (.int (nI 0)), none, none]) dX10_two_20 (Nat.le_of_ble_eq_true rfl) rfl ?_
  refine hz_iconst (pc := 21) C (v := nI 1) dX10_two_21 (by decide +kernel) ?_
  refine hz_istore (pc := 22) C (ls' := [some (.ref 1), some (.int (nI a)), some (.int (nI b)), some (.int (nI 0)), some (.int (nI 1)), none]) dX10_two_22 (Nat.le_of_ble_eq_true rfl) rfl ?_
  by_cases h1 : 1 ≤ u 64
  · refine Eq.mp (by rw [show msb (decide (1 < 1)) u I = I from rfl]; rfl) (?_ : hz_G X TT NN (msb (decide (1 < 1)) u I, L, PP q) 0 0 24 [some (.ref 1), some (.int (nI a)), some (.int (nI b)), some (.int (nI (nsum (tws u a b) 1))), some (.int (nI 1)), none] [])
    refine lp_tw1 C V U ha hb (fun w5 => ?_) (u 64 - 1) 1 none (by omega) (Nat.le_refl 1)
    refine hz_iload_n (pc := 91) C dX10_two_91 rfl ?_
    exact hz_iret C Z rfl dX10_two_92 rfl rfl
  · have h0 : u 64 = 0 := by omega
    refine hz_iload (pc := 24) C dX10_two_24 rfl ?_
    refine hz_aload_n (pc := 26) C dX10_two_26 rfl ?_
    refine hz_getP (pc := 27) C (v := 12) ffX10_26 dX10_two_27 hT1 hA1 rfl (hP1_4 q) (by decide) ?_
    refine hz_getI (pc := 30) C (v := nI (u 64)) ffX10_48 dX10_two_30 hT12 hA12 rfl (hv_al V) ?_
    refine hz_ic_ge (pc := 33) C (tgt := 91) dX10_two_33 rfl (fun _ => ?_) (fun cq => absurd (nI_le (by omega) (by omega)) cq)
    refine hz_iload_n (pc := 91) C dX10_two_91 rfl ?_
    exact hz_iret C Z rfl dX10_two_92 (by rw [h0]; rfl) (by rw [h0]; rfl)

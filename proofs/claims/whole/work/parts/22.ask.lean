theorem vin {x a b : Nat} (h1 : a ≤ x) (h2 : x ≤ b) (hb : b < 2 ^ 31) : ¬ nI x < nI a ∧ ¬ nI b < nI x := ⟨nI_nlt h1 (by omega), nI_nlt h2 hb⟩
theorem vr {r : Nat} (h : r < 8) : ¬ nI r < nI 0 ∧ ¬ nI 7 < nI r := vin (Nat.zero_le _) (by omega) (by decide)
theorem vs {s : Nat} (h : s ≤ 9999) : ¬ nI s < nI 0 ∧ ¬ nI 9999 < nI s := vin (Nat.zero_le _) h (by decide)
theorem vk {k n : Nat} (h : k < n) (hn : n ≤ 6) : ¬ nI k < nI 0 ∧ ¬ nI n - nI 1 < nI k := by
  rw [pk_sub (by omega)]
  exact vin (Nat.zero_le _) (by omega) (by omega)
theorem vin_ex {v : Int32} {b : Nat} (hb : b < 2 ^ 31) (h : ¬ v < nI 0 ∧ ¬ nI b < v) : ∃ x, x ≤ b ∧ v = nI x := by
  obtain ⟨h1, h2⟩ := h
  rw [nI_0] at h1
  obtain ⟨j, hj, rfl⟩ := nI_of h1
  exact ⟨j, Nat.le_of_not_lt fun z => h2 (nI_lt z hj), rfl⟩
theorem vk_ex {v : Int32} {n : Nat} (hn : n ≤ 6) (h : ¬ v < nI 0 ∧ ¬ nI n - nI 1 < v) : ∃ k, k < n ∧ v = nI k := by
  by_cases e : n = 0
  · subst e
    obtain ⟨h1, h2⟩ := h
    rw [nI_0] at h1
    obtain ⟨j, hj, rfl⟩ := nI_of h1
    refine absurd ?_ h2
    rw [Int32.lt_iff_toInt_lt, nI_toInt hj, show (nI 0 - nI 1).toInt = -1 by decide +kernel]
    omega
  · rw [pk_sub (by omega)] at h
    obtain ⟨x, hx, e2⟩ := vin_ex (by omega) h
    exact ⟨x, by omega, e2⟩
set_option maxHeartbeats 4000000 in
set_option maxRecDepth 100000 in
theorem ev_refBad {I : Nat → Nat → Int32} {L : Nat → Nat → Int64} {q : Nat → Nat → Nat} : hz_Ev mX10_refuseBad TT NN (I, L, PP q) [.ref 1] 0 0 (some (.int (-2 : Int32))) TT NN (hz_up I 1 8 ((I 1 8) + (nI 1)), L, PP q) := by
  refine hz_Ev.intro (ls := [some (.ref 1)]) (by decide +kernel) rfl (Nat.le_of_ble_eq_true rfl) (fun X C Z _ => ?_)
  refine hz_aload_n (pc := 0) C dX10_refuseBad_0 rfl ?_
  refine hz_dup (pc := 1) C dX10_refuseBad_1 rfl ?_
  refine hz_getI (pc := 2) C (v := I 1 8) ffX10_63 dX10_refuseBad_2 hT1 hA1 rfl rfl ?_
  refine hz_iconst (pc := 5) C (v := nI 1) dX10_refuseBad_5 (by decide +kernel) ?_
  refine hz_iadd (pc := 6) C dX10_refuseBad_6 rfl ?_
  refine hz_putI (pc := 7) C (M' := (hz_up I 1 8 ((I 1 8) + (nI 1)), L, PP q)) ffX10_63 dX10_refuseBad_7 hT1 hA1 rfl rfl ⟨rfl, rfl⟩ rfl ?_
  refine hz_bipush (pc := 10) C (v := (-2 : Int32)) dX10_refuseBad_10 (by decide +kernel) ?_
  exact hz_iret C Z rfl dX10_refuseBad_12 rfl rfl
set_option maxHeartbeats 4000000 in
set_option maxRecDepth 100000 in
theorem ev_refNo {I : Nat → Nat → Int32} {L : Nat → Nat → Int64} {q : Nat → Nat → Nat} : hz_Ev mX10_refuseNo TT NN (I, L, PP q) [.ref 1] 0 0 (some (.int (-3 : Int32))) TT NN (hz_up I 1 9 ((I 1 9) + (nI 1)), L, PP q) := by
  refine hz_Ev.intro (ls := [some (.ref 1)]) (by decide +kernel) rfl (Nat.le_of_ble_eq_true rfl) (fun X C Z _ => ?_)
  refine hz_aload_n (pc := 0) C dX10_refuseNo_0 rfl ?_
  refine hz_dup (pc := 1) C dX10_refuseNo_1 rfl ?_
  refine hz_getI (pc := 2) C (v := I 1 9) ffX10_267 dX10_refuseNo_2 hT1 hA1 rfl rfl ?_
  refine hz_iconst (pc := 5) C (v := nI 1) dX10_refuseNo_5 (by decide +kernel) ?_
  refine hz_iadd (pc := 6) C dX10_refuseNo_6 rfl ?_
  refine hz_putI (pc := 7) C (M' := (hz_up I 1 9 ((I 1 9) + (nI 1)), L, PP q)) ffX10_267 dX10_refuseNo_7 hT1 hA1 rfl rfl ⟨rfl, rfl⟩ rfl ?_
  refine hz_bipush (pc := 10) C (v := (-3 : Int32)) dX10_refuseNo_10 (by decide +kernel) ?_
  exact hz_iret C Z rfl dX10_refuseNo_12 rfl rfl
set_option maxHeartbeats 4000000 in
set_option maxRecDepth 100000 in
theorem ev_refFull {I : Nat → Nat → Int32} {L : Nat → Nat → Int64} {q : Nat → Nat → Nat} : hz_Ev mX10_refuseFull TT NN (I, L, PP q) [.ref 1] 0 0 (some (.int (-4 : Int32))) TT NN (hz_up I 1 10 ((I 1 10) + (nI 1)), L, PP q) := by
  refine hz_Ev.intro (ls := [some (.ref 1)]) (by decide +kernel) rfl (Nat.le_of_ble_eq_true rfl) (fun X C Z _ => ?_)
  refine hz_aload_n (pc := 0) C dX10_refuseFull_0 rfl ?_
  refine hz_dup (pc := 1) C dX10_refuseFull_1 rfl ?_
  refine hz_getI (pc := 2) C (v := I 1 10) ffX10_270 dX10_refuseFull_2 hT1 hA1 rfl rfl ?_
  refine hz_iconst (pc := 5) C (v := nI 1) dX10_refuseFull_5 (by decide +kernel) ?_
  refine hz_iadd (pc := 6) C dX10_refuseFull_6 rfl ?_
  refine hz_putI (pc := 7) C (M' := (hz_up I 1 10 ((I 1 10) + (nI 1)), L, PP q)) ffX10_270 dX10_refuseFull_7 hT1 hA1 rfl rfl ⟨rfl, rfl⟩ rfl ?_
  refine hz_bipush (pc := 10) C (v := (-4 : Int32)) dX10_refuseFull_10 (by decide +kernel) ?_
  exact hz_iret C Z rfl dX10_refuseFull_12 rfl rfl
set_option maxHeartbeats 4000000 in
set_option maxRecDepth 100000 in
theorem ev_bad {I : Nat → Nat → Int32} {L : Nat → Nat → Int64} {q : Nat → Nat → Nat} : hz_Ev mX11_bad TT NN (I, L, PP q) [.ref 146] 0 0 (some (.int (-2 : Int32))) TT NN (hz_up I 151 0 ((I 151 0) + (nI 1)), L, PP q) := by
  refine hz_Ev.intro (ls := [some (.ref 146)]) (by decide +kernel) rfl (Nat.le_of_ble_eq_true rfl) (fun X C Z _ => ?_)
  refine hz_aload_n (pc := 0) C dX11_bad_0 rfl ?_
  refine hz_getP (pc := 1) C (v := 151) ffX11_23 dX11_bad_1 hT146 hA146 rfl (hP146_4 q) (by decide) ?_
  refine hz_iconst (pc := 4) C (v := nI 0) dX11_bad_4 (by decide +kernel) ?_
  refine hz_dup2 (pc := 5) C dX11_bad_5 rfl rfl ?_
  refine hz_iald (pc := 6) C (v := I 151 0) (j := 0) dX11_bad_6 hT151 hA151 rfl (by decide) (by decide) rfl ?_
  refine hz_iconst (pc := 7) C (v := nI 1) dX11_bad_7 (by decide +kernel) ?_
  refine hz_iadd (pc := 8) C dX11_bad_8 rfl ?_
  refine hz_iast (pc := 9) C (v := (I 151 0) + (nI 1)) (j := 0) (M' := (hz_up I 151 0 ((I 151 0) + (nI 1)), L, PP q)) dX11_bad_9 hT151 hA151 rfl (by decide) (by decide) rfl rfl ?_
  refine hz_bipush (pc := 10) C (v := (-2 : Int32)) dX11_bad_10 (by decide +kernel) ?_
  exact hz_iret C Z rfl dX11_bad_12 rfl rfl
set_option maxHeartbeats 4000000 in
set_option maxRecDepth 100000 in
theorem ev_no {I : Nat → Nat → Int32} {L : Nat → Nat → Int64} {q : Nat → Nat → Nat} : hz_Ev mX11_no TT NN (I, L, PP q) [.ref 146] 0 0 (some (.int (-3 : Int32))) TT NN (hz_up I 151 1 ((I 151 1) + (nI 1)), L, PP q) := by
  refine hz_Ev.intro (ls := [some (.ref 146)]) (by decide +kernel) rfl (Nat.le_of_ble_eq_true rfl) (fun X C Z _ => ?_)
  refine hz_aload_n (pc := 0) C dX11_no_0 rfl ?_
  refine hz_getP (pc := 1) C (v := 151) ffX11_23 dX11_no_1 hT146 hA146 rfl (hP146_4 q) (by decide) ?_
  refine hz_iconst (pc := 4) C (v := nI 1) dX11_no_4 (by decide +kernel) ?_
  refine hz_dup2 (pc := 5) C dX11_no_5 rfl rfl ?_
  refine hz_iald (pc := 6) C (v := I 151 1) (j := 1) dX11_no_6 hT151 hA151 rfl (by decide) (by decide) rfl ?_
  refine hz_iconst (pc := 7) C (v := nI 1) dX11_no_7 (by decide +kernel) ?_
  refine hz_iadd (pc := 8) C dX11_no_8 rfl ?_
  refine hz_iast (pc := 9) C (v := (I 151 1) + (nI 1)) (j := 1) (M' := (hz_up I 151 1 ((I 151 1) + (nI 1)), L, PP q)) dX11_no_9 hT151 hA151 rfl (by decide) (by decide) rfl rfl ?_
  refine hz_bipush (pc := 10) C (v := (-3 : Int32)) dX11_no_10 (by decide +kernel) ?_
  exact hz_iret C Z rfl dX11_no_12 rfl rfl
set_option maxHeartbeats 4000000 in
set_option maxRecDepth 100000 in
theorem ev_full {I : Nat → Nat → Int32} {L : Nat → Nat → Int64} {q : Nat → Nat → Nat} : hz_Ev mX11_full TT NN (I, L, PP q) [.ref 146] 0 0 (some (.int (-4 : Int32))) TT NN (hz_up I 151 2 ((I 151 2) + (nI 1)), L, PP q) := by
  refine hz_Ev.intro (ls := [some (.ref 146)]) (by decide +kernel) rfl (Nat.le_of_ble_eq_true rfl) (fun X C Z _ => ?_)
  refine hz_aload_n (pc := 0) C dX11_full_0 rfl ?_
  refine hz_getP (pc := 1) C (v := 151) ffX11_23 dX11_full_1 hT146 hA146 rfl (hP146_4 q) (by decide) ?_
  refine hz_iconst (pc := 4) C (v := nI 2) dX11_full_4 (by decide +kernel) ?_
  refine hz_dup2 (pc := 5) C dX11_full_5 rfl rfl ?_
  refine hz_iald (pc := 6) C (v := I 151 2) (j := 2) dX11_full_6 hT151 hA151 rfl (by decide) (by decide) rfl ?_
  refine hz_iconst (pc := 7) C (v := nI 1) dX11_full_7 (by decide +kernel) ?_
  refine hz_iadd (pc := 8) C dX11_full_8 rfl ?_
  refine hz_iast (pc := 9) C (v := (I 151 2) + (nI 1)) (j := 2) (M' := (hz_up I 151 2 ((I 151 2) + (nI 1)), L, PP q)) dX11_full_9 hT151 hA151 rfl (by decide) (by decide) rfl rfl ?_
  refine hz_bipush (pc := 10) C (v := (-4 : Int32)) dX11_full_10 (by decide +kernel) ?_
  exact hz_iret C Z rfl dX11_full_12 rfl rfl
set_option maxHeartbeats 4000000 in
set_option maxRecDepth 100000 in
theorem ev_isAlarm {I : Nat → Nat → Int32} {L : Nat → Nat → Int64} {q : Nat → Nat → Nat} {u : Nat → Nat} (V : HV 12 q I u) (U : WU u) (v : Int32) : hz_Ev mX10_isAlarm TT NN (I, L, PP q) [.ref 1, .int v] 0 0 (some (.int (hz_b (¬ v < nI 0 ∧ ¬ nI (u 64) - nI 1 < v)))) TT NN (I, L, PP q) := by
  refine hz_Ev.intro (ls := [some (.ref 1), some (.int v)]) (by decide +kernel) rfl (Nat.le_of_ble_eq_true rfl) (fun X C Z _ => ?_)
  refine hz_iload_n (pc := 0) C dX10_isAlarm_0 rfl ?_
  refine hz_iconst (pc := 1) C (v := nI 0) dX10_isAlarm_1 (by decide +kernel) ?_
  refine hz_aload_n (pc := 2) C dX10_isAlarm_2 rfl ?_
  refine hz_getP (pc := 3) C (v := 12) ffX10_26 dX10_isAlarm_3 hT1 hA1 rfl (hP1_4 q) (by decide) ?_
  refine hz_getI (pc := 6) C (v := nI (u 64)) ffX10_48 dX10_isAlarm_6 hT12 hA12 rfl (hv_al V) ?_
  refine hz_iconst (pc := 9) C (v := nI 1) dX10_isAlarm_9 (by decide +kernel) ?_
  refine hz_isub (pc := 10) C dX10_isAlarm_10 rfl ?_
  refine hz_callSs (pc := 11) C (as := [.int v, .int (nI 0), .int ((nI (u 64)) - (nI 1))]) (st := []) (ev_within _ v (nI 0) ((nI (u 64)) - (nI 1))) (hz_new0 _ _) fyX10_within fsX10_59 rfl dX10_isAlarm_11 rfl rfl (Nat.le_of_ble_eq_true rfl) (by decide) (hz_cap0 _) ?_
  exact hz_zret C Z rfl (hz_bn _) dX10_isAlarm_14 rfl rfl
set_option maxHeartbeats 4000000 in
set_option maxRecDepth 100000 in
theorem ev_isAlarmM {I : Nat → Nat → Int32} {L : Nat → Nat → Int64} {q : Nat → Nat → Nat} {u : Nat → Nat} (V : MV I u) (U : WU u) (v : Int32) : hz_Ev mX11_isAlarm TT NN (I, L, PP q) [.ref 146, .int v] 0 0 (some (.int (hz_b (¬ v < nI 0 ∧ ¬ nI (u 64) - nI 1 < v)))) TT NN (I, L, PP q) := by
  refine hz_Ev.intro (ls := [some (.ref 146), some (.int v)]) (by decide +kernel) rfl (Nat.le_of_ble_eq_true rfl) (fun X C Z _ => ?_)
  refine hz_iload_n (pc := 0) C dX11_isAlarm_0 rfl ?_
  refine hz_iconst (pc := 1) C (v := nI 0) dX11_isAlarm_1 (by decide +kernel) ?_
  refine hz_aload_n (pc := 2) C dX11_isAlarm_2 rfl ?_
  refine hz_getP (pc := 3) C (v := 147) ffX11_7 dX11_isAlarm_3 hT146 hA146 rfl (hP146_0 q) (by decide) ?_
  refine hz_bipush (pc := 6) C (v := nI 64) dX11_isAlarm_6 (by decide +kernel) ?_
  refine hz_iald (pc := 8) C (v := nI (u 64)) (j := 64) dX11_isAlarm_8 hT147 hA147 rfl (by decide) (by decide) (mg V (by omega) (by omega)) ?_
  refine hz_iconst (pc := 9) C (v := nI 1) dX11_isAlarm_9 (by decide +kernel) ?_
  refine hz_isub (pc := 10) C dX11_isAlarm_10 rfl ?_
  refine hz_callSs (pc := 11) C (as := [.int v, .int (nI 0), .int ((nI (u 64)) - (nI 1))]) (st := []) (ev_in _ v (nI 0) ((nI (u 64)) - (nI 1))) (hz_new0 _ _) fyX11_in fsX11_52 rfl dX11_isAlarm_11 rfl rfl (Nat.le_of_ble_eq_true rfl) (by decide) (hz_cap0 _) ?_
  exact hz_zret C Z rfl (hz_bn _) dX11_isAlarm_14 rfl rfl
set_option maxHeartbeats 4000000 in
set_option maxRecDepth 100000 in
theorem ev_heard {I : Nat → Nat → Int32} {L : Nat → Nat → Int64} {q : Nat → Nat → Nat} {u : Nat → Nat} (V : HV 12 q I u) (U : WU u) {r : Nat} (hr : r < 8) {s : Nat} (hs : s ≤ 9999) : hz_Ev mX10_heard TT NN (I, L, PP q) [.ref 1, .int (nI r), .int (nI s)] 0 0 (some (.int (nI (bsum (fun k => sin u k (nI s) && rch u r k) (u 64))))) TT NN (msb (anyb (fun k => sin u k (nI s)) (u 64)) u I, L, PP q) := by
  have hal := wu_al U
  have hco := wu_co U
  refine hz_Ev.intro (ls := [some (.ref 1), some (.int (nI r)), some (.int (nI s))]) (by decide +kernel) rfl (Nat.le_of_ble_eq_true rfl) (fun X C Z _ => ?_)
  refine hz_iload_n (pc := 0) C dX10_heard_0 rfl ?_
  refine hz_callSs (pc := 1) C (as := [.int (nI r)]) (st := []) (ev_isRoom _ (nI r)) (hz_new0 _ _) fyX10_isRoom fsX10_55 rfl dX10_heard_1 rfl rfl (Nat.le_of_ble_eq_true rfl) (by decide) (hz_cap0 _) ?_
  refine hz_ifb_eq (pc := 4) C (tgt := 14) dX10_heard_4 rfl (fun cq => absurd (vr hr) cq) (fun _ => ?_)
  refine hz_iload_n (pc := 7) C dX10_heard_7 rfl ?_
  refine hz_callSs (pc := 8) C (as := [.int (nI s)]) (st := []) (ev_isSecond _ (nI s)) (hz_new0 _ _) fyX10_isSecond fsX10_161 rfl dX10_heard_8 rfl rfl (Nat.le_of_ble_eq_true rfl) (by decide) (hz_cap0 _) ?_
  refine hz_ifb_ne (pc := 11) C (tgt := 19) dX10_heard_11 rfl (fun _ => ?_) (fun cq => absurd (vs hs) cq)
  refine hz_aload_n (pc := 19) C dX10_heard_19 rfl ?_
  refine hz_getP (pc := 20) C (v := 12) ffX10_26 dX10_heard_20 hT1 hA1 rfl (hP1_4 q) (by decide) ?_
  refine hz_iload_n (pc := 23) C dX10_heard_23 rfl ?_
  refine hz_iload_n (pc := 24) C dX10_heard_24 rfl ?_
  refine hz_callVs (pc := 25) C (as := [.int (nI r), .int (nI s)]) (st := []) (ev_bitsHeard (L := L) V U (r := r) (by omega) (nI s)) (hz_new0 _ _) fyX2_bitsHeard fvX10_114 rfl dX10_heard_25 hT12 rfl rfl hA12 rfl rfl (Nat.le_of_ble_eq_true rfl) (by decide) (hz_cap0 _) ?_
  exact hz_iret C Z rfl dX10_heard_28 rfl rfl
set_option maxHeartbeats 4000000 in
set_option maxRecDepth 100000 in
theorem ev_heardM {I : Nat → Nat → Int32} {L : Nat → Nat → Int64} {q : Nat → Nat → Nat} {u : Nat → Nat} (V : MV I u) (U : WU u) {r : Nat} (hr : r < 8) {s : Nat} (hs : s ≤ 9999) : hz_Ev mX11_heard TT NN (I, L, PP q) [.ref 146, .int (nI r), .int (nI s)] 0 0 (some (.int (nI (bsum (fun k => sin u k (nI s) && rch u r k) (u 64))))) TT NN (lm u I, L, PP q) := by
  have hal := wu_al U
  have hco := wu_co U
  refine hz_Ev.intro (ls := [some (.ref 146), some (.int (nI r)), some (.int (nI s))]) (by decide +kernel) rfl (Nat.le_of_ble_eq_true rfl) (fun X C Z _ => ?_)
  refine hz_iload_n (pc := 0) C dX11_heard_0 rfl ?_
  refine hz_callSs (pc := 1) C (as := [.int (nI r)]) (st := []) (ev_isRoomM _ (nI r)) (hz_new0 _ _) fyX11_isRoom fsX11_56 rfl dX11_heard_1 rfl rfl (Nat.le_of_ble_eq_true rfl) (by decide) (hz_cap0 _) ?_
  refine hz_ifb_eq (pc := 4) C (tgt := 18) dX11_heard_4 rfl (fun cq => absurd (vr hr) cq) (fun _ => ?_)
  refine hz_iload_n (pc := 7) C dX11_heard_7 rfl ?_
  refine hz_iconst (pc := 8) C (v := nI 0) dX11_heard_8 (by decide +kernel) ?_
  refine hz_sipush (pc := 9) C (v := nI 9999) dX11_heard_9 (by decide +kernel) ?_
  refine hz_callSs (pc := 12) C (as := [.int (nI s), .int (nI 0), .int (nI 9999)]) (st := []) (ev_in _ (nI s) (nI 0) (nI 9999)) (hz_new0 _ _) fyX11_in fsX11_52 rfl dX11_heard_12 rfl rfl (Nat.le_of_ble_eq_true rfl) (by decide) (hz_cap0 _) ?_
  refine hz_ifb_ne (pc := 15) C (tgt := 23) dX11_heard_15 rfl (fun _ => ?_) (fun cq => absurd (vs hs) cq)
  refine hz_aload_n (pc := 23) C dX11_heard_23 rfl ?_
  refine hz_callVv (pc := 24) C (as := []) (st := []) (ev_layFar V U) (hz_new0 _ _) fyX11_layFar fvX11_146 rfl dX11_heard_24 hT146 rfl rfl hA146 rfl rfl (Nat.le_of_ble_eq_true rfl) (by decide) (hz_cap0 _) ?_
  refine hz_aload_n (pc := 27) C dX11_heard_27 rfl ?_
  refine hz_iload_n (pc := 28) C dX11_heard_28 rfl ?_
  refine hz_iload_n (pc := 29) C dX11_heard_29 rfl ?_
  refine hz_aload_n (pc := 30) C dX11_heard_30 rfl ?_
  refine hz_getP (pc := 31) C (v := 147) ffX11_7 dX11_heard_31 hT146 hA146 rfl (hP146_0 q) (by decide) ?_
  refine hz_bipush (pc := 34) C (v := nI 92) dX11_heard_34 (by decide +kernel) ?_
  refine hz_iald (pc := 36) C (v := nI (u 92)) (j := 92) dX11_heard_36 hT147 hA147 rfl (by decide) (by decide) (mg (mf_lm V).1 (by omega) (by omega)) ?_
  refine hz_callVs (pc := 37) C (as := [.int (nI r), .int (nI s), .int (nI (u 92))]) (st := []) (ev_heardBy (mf_lm V) U (r := r) (by omega) (nI s) (c := u 92) (by omega)) (hz_new0 _ _) fyX11_heardBy fvX11_149 rfl dX11_heard_37 hT146 rfl rfl hA146 rfl rfl (Nat.le_of_ble_eq_true rfl) (by decide) (hz_cap0 _) ?_
  exact hz_iret C Z rfl dX11_heard_40 rfl rfl
set_option maxHeartbeats 4000000 in
set_option maxRecDepth 100000 in
theorem ev_far {I : Nat → Nat → Int32} {L : Nat → Nat → Int64} {q : Nat → Nat → Nat} {u : Nat → Nat} (V : HV 12 q I u) (U : WU u) {a : Nat} (ha : a < 8) {b : Nat} (hb : b < 8) : hz_Ev mX10_far TT NN (I, L, PP q) [.ref 1, .int (nI a), .int (nI b)] 0 0 (some (.int (fa (ds u a b)))) TT NN (ms u I, L, PP q) := by
  have hal := wu_al U
  have hco := wu_co U
  refine hz_Ev.intro (ls := [some (.ref 1), some (.int (nI a)), some (.int (nI b)), none]) (by decide +kernel) rfl (Nat.le_of_ble_eq_true rfl) (fun X C Z _ => ?_)
  refine hz_iload_n (pc := 0) C dX10_far_0 rfl ?_
  refine hz_callSs (pc := 1) C (as := [.int (nI a)]) (st := []) (ev_isRoom _ (nI a)) (hz_new0 _ _) fyX10_isRoom fsX10_55 rfl dX10_far_1 rfl rfl (Nat.le_of_ble_eq_true rfl) (by decide) (hz_cap0 _) ?_
  refine hz_ifb_eq (pc := 4) C (tgt := 14) dX10_far_4 rfl (fun cq => absurd (vr ha) cq) (fun _ => ?_)
  refine hz_iload_n (pc := 7) C dX10_far_7 rfl ?_
  refine hz_callSs (pc := 8) C (as := [.int (nI b)]) (st := []) (ev_isRoom _ (nI b)) (hz_new0 _ _) fyX10_isRoom fsX10_55 rfl dX10_far_8 rfl rfl (Nat.le_of_ble_eq_true rfl) (by decide) (hz_cap0 _) ?_
  refine hz_ifb_ne (pc := 11) C (tgt := 19) dX10_far_11 rfl (fun _ => ?_) (fun cq => absurd (vr hb) cq)
  refine hz_aload_n (pc := 19) C dX10_far_19 rfl ?_
  refine hz_getP (pc := 20) C (v := 12) ffX10_26 dX10_far_20 hT1 hA1 rfl (hP1_4 q) (by decide) ?_
  refine hz_iload_n (pc := 23) C dX10_far_23 rfl ?_
  refine hz_iload_n (pc := 24) C dX10_far_24 rfl ?_
  refine hz_callVs (pc := 25) C (as := [.int (nI a), .int (nI b)]) (st := []) (ev_dist (L := L) V U (a := a) (b := b) (by omega) (by omega)) (hz_new0 _ _) fyX2_distanceBetween fvX10_117 rfl dX10_far_25 hT12 rfl rfl hA12 rfl rfl (Nat.le_of_ble_eq_true rfl) (by decide) (hz_cap0 _) ?_
  refine hz_istore_n (pc := 28) C (ls' := [some (.ref 1), some (.int (nI a)), some (.int (nI b)), some (.int (nI (ds u a b)))]) dX10_far_28 (Nat.le_of_ble_eq_true rfl) rfl ?_
  refine hz_iload_n (pc := 29) C dX10_far_29 rfl ?_
  refine hz_sipush (pc := 30) C (v := nI 1000) dX10_far_30 (by decide +kernel) ?_
  refine hz_ic_lt (pc := 33) C (tgt := 40) dX10_far_33 rfl (fun c1 => ?_) (fun c1 => ?_)
  · refine hz_iload_n (pc := 40) C dX10_far_40 rfl ?_
    exact hz_iret C Z rfl dX10_far_41 (fa_fin (fun z => nI_nlt z (by have := ds_le U ha hb; omega) c1)).symm rfl
  · refine hz_iconst (pc := 36) C (v := (-1 : Int32)) dX10_far_36 (by decide +kernel) ?_
    refine hz_goto (pc := 37) C (tgt := 41) dX10_far_37 rfl ?_
    exact hz_iret C Z rfl dX10_far_41 (fa_inf (Nat.le_of_not_lt fun z => c1 (nI_lt z (by decide)))).symm rfl
set_option maxHeartbeats 4000000 in
set_option maxRecDepth 100000 in
theorem ev_farM {I : Nat → Nat → Int32} {L : Nat → Nat → Int64} {q : Nat → Nat → Nat} {u : Nat → Nat} (V : MV I u) (U : WU u) {a : Nat} (ha : a < 8) {b : Nat} (hb : b < 8) : hz_Ev mX11_far TT NN (I, L, PP q) [.ref 146, .int (nI a), .int (nI b)] 0 0 (some (.int (fa (ds u a b)))) TT NN (lm u I, L, PP q) := by
  have hal := wu_al U
  have hco := wu_co U
  refine hz_Ev.intro (ls := [some (.ref 146), some (.int (nI a)), some (.int (nI b))]) (by decide +kernel) rfl (Nat.le_of_ble_eq_true rfl) (fun X C Z _ => ?_)
  refine hz_iload_n (pc := 0) C dX11_far_0 rfl ?_
  refine hz_callSs (pc := 1) C (as := [.int (nI a)]) (st := []) (ev_isRoomM _ (nI a)) (hz_new0 _ _) fyX11_isRoom fsX11_56 rfl dX11_far_1 rfl rfl (Nat.le_of_ble_eq_true rfl) (by decide) (hz_cap0 _) ?_
  refine hz_ifb_eq (pc := 4) C (tgt := 14) dX11_far_4 rfl (fun cq => absurd (vr ha) cq) (fun _ => ?_)
  refine hz_iload_n (pc := 7) C dX11_far_7 rfl ?_
  refine hz_callSs (pc := 8) C (as := [.int (nI b)]) (st := []) (ev_isRoomM _ (nI b)) (hz_new0 _ _) fyX11_isRoom fsX11_56 rfl dX11_far_8 rfl rfl (Nat.le_of_ble_eq_true rfl) (by decide) (hz_cap0 _) ?_
  refine hz_ifb_ne (pc := 11) C (tgt := 19) dX11_far_11 rfl (fun _ => ?_) (fun cq => absurd (vr hb) cq)
  refine hz_aload_n (pc := 19) C dX11_far_19 rfl ?_
  refine hz_callVv (pc := 20) C (as := []) (st := []) (ev_layFar V U) (hz_new0 _ _) fyX11_layFar fvX11_146 rfl dX11_far_20 hT146 rfl rfl hA146 rfl rfl (Nat.le_of_ble_eq_true rfl) (by decide) (hz_cap0 _) ?_
  refine hz_aload_n (pc := 23) C dX11_far_23 rfl ?_
  refine hz_iload_n (pc := 24) C dX11_far_24 rfl ?_
  refine hz_iload_n (pc := 25) C dX11_far_25 rfl ?_
  refine hz_callVs (pc := 26) C (as := [.int (nI a), .int (nI b)]) (st := []) (ev_farX (a := a) (b := b) (by omega) (by omega) ((mf_lm V).2 _ _ (by omega) (by omega))) (hz_new0 _ _) fyX11_farOf fvX11_153 rfl dX11_far_26 hT146 rfl rfl hA146 rfl rfl (Nat.le_of_ble_eq_true rfl) (by decide) (hz_cap0 _) ?_
  exact hz_iret C Z rfl dX11_far_29 rfl rfl
set_option maxHeartbeats 4000000 in
set_option maxRecDepth 100000 in
theorem ev_through {I : Nat → Nat → Int32} {L : Nat → Nat → Int64} {q : Nat → Nat → Nat} {u : Nat → Nat} (V : HV 12 q I u) (U : WU u) {r : Nat} (hr : r < 8) {k : Nat} (hk : k < u 64) : hz_Ev mX10_through TT NN (I, L, PP q) [.ref 1, .int (nI r), .int (nI k)] 0 0 (some (.int (nI (en u r k) - 1))) TT NN (ms u I, L, PP q) := by
  have hal := wu_al U
  have hco := wu_co U
  have hkd := wu_kd U hk
  have hrm := wu_rm U hk
  have hba := wu_ba U hk
  refine hz_Ev.intro (ls := [some (.ref 1), some (.int (nI r)), some (.int (nI k))]) (by decide +kernel) rfl (Nat.le_of_ble_eq_true rfl) (fun X C Z _ => ?_)
  refine hz_iload_n (pc := 0) C dX10_through_0 rfl ?_
  refine hz_callSs (pc := 1) C (as := [.int (nI r)]) (st := []) (ev_isRoom _ (nI r)) (hz_new0 _ _) fyX10_isRoom fsX10_55 rfl dX10_through_1 rfl rfl (Nat.le_of_ble_eq_true rfl) (by decide) (hz_cap0 _) ?_
  refine hz_ifb_eq (pc := 4) C (tgt := 15) dX10_through_4 rfl (fun cq => absurd (vr hr) cq) (fun _ => ?_)
  refine hz_aload_n (pc := 7) C dX10_through_7 rfl ?_
  refine hz_iload_n (pc := 8) C dX10_through_8 rfl ?_
  refine hz_callVs (pc := 9) C (as := [.int (nI k)]) (st := []) (ev_isAlarm V U (nI k)) (hz_new0 _ _) fyX10_isAlarm fvX10_123 rfl dX10_through_9 hT1 rfl rfl hA1 rfl rfl (Nat.le_of_ble_eq_true rfl) (by decide) (hz_cap0 _) ?_
  refine hz_ifb_ne (pc := 12) C (tgt := 20) dX10_through_12 rfl (fun _ => ?_) (fun cq => absurd (vk hk (wu_al U)) cq)
  refine hz_aload_n (pc := 20) C dX10_through_20 rfl ?_
  refine hz_getP (pc := 21) C (v := 12) ffX10_26 dX10_through_21 hT1 hA1 rfl (hP1_4 q) (by decide) ?_
  refine hz_iload_n (pc := 24) C dX10_through_24 rfl ?_
  refine hz_iload_n (pc := 25) C dX10_through_25 rfl ?_
  refine hz_callVs (pc := 26) C (as := [.int (nI r), .int (nI k)]) (st := []) (ev_entrance (L := L) V U (r := r) (k := k) (by omega) (by omega)) (hz_new0 _ _) fyX2_entrance fvX10_168 rfl dX10_through_26 hT12 rfl rfl hA12 rfl rfl (Nat.le_of_ble_eq_true rfl) (by decide) (hz_cap0 _) ?_
  exact hz_iret C Z rfl dX10_through_29 rfl rfl
set_option maxHeartbeats 4000000 in
set_option maxRecDepth 100000 in
theorem ev_throughM {I : Nat → Nat → Int32} {L : Nat → Nat → Int64} {q : Nat → Nat → Nat} {u : Nat → Nat} (V : MV I u) (U : WU u) {r : Nat} (hr : r < 8) {k : Nat} (hk : k < u 64) : hz_Ev mX11_through TT NN (I, L, PP q) [.ref 146, .int (nI r), .int (nI k)] 0 0 (some (.int (nI (en u r k) - 1))) TT NN (lm u I, L, PP q) := by
  have hal := wu_al U
  have hco := wu_co U
  have hkd := wu_kd U hk
  have hrm := wu_rm U hk
  have hba := wu_ba U hk
  refine hz_Ev.intro (ls := [some (.ref 146), some (.int (nI r)), some (.int (nI k))]) (by decide +kernel) rfl (Nat.le_of_ble_eq_true rfl) (fun X C Z _ => ?_)
  refine hz_iload_n (pc := 0) C dX11_through_0 rfl ?_
  refine hz_callSs (pc := 1) C (as := [.int (nI r)]) (st := []) (ev_isRoomM _ (nI r)) (hz_new0 _ _) fyX11_isRoom fsX11_56 rfl dX11_through_1 rfl rfl (Nat.le_of_ble_eq_true rfl) (by decide) (hz_cap0 _) ?_
  refine hz_ifb_eq (pc := 4) C (tgt := 15) dX11_through_4 rfl (fun cq => absurd (vr hr) cq) (fun _ => ?_)
  refine hz_aload_n (pc := 7) C dX11_through_7 rfl ?_
  refine hz_iload_n (pc := 8) C dX11_through_8 rfl ?_
  refine hz_callVs (pc := 9) C (as := [.int (nI k)]) (st := []) (ev_isAlarmM V U (nI k)) (hz_new0 _ _) fyX11_isAlarm fvX11_160 rfl dX11_through_9 hT146 rfl rfl hA146 rfl rfl (Nat.le_of_ble_eq_true rfl) (by decide) (hz_cap0 _) ?_
  refine hz_ifb_ne (pc := 12) C (tgt := 20) dX11_through_12 rfl (fun _ => ?_) (fun cq => absurd (vk hk (wu_al U)) cq)
  refine hz_aload_n (pc := 20) C dX11_through_20 rfl ?_
  refine hz_callVv (pc := 21) C (as := []) (st := []) (ev_layFar V U) (hz_new0 _ _) fyX11_layFar fvX11_146 rfl dX11_through_21 hT146 rfl rfl hA146 rfl rfl (Nat.le_of_ble_eq_true rfl) (by decide) (hz_cap0 _) ?_
  refine hz_aload_n (pc := 24) C dX11_through_24 rfl ?_
  refine hz_iload_n (pc := 25) C dX11_through_25 rfl ?_
  refine hz_iload_n (pc := 26) C dX11_through_26 rfl ?_
  refine hz_callVs (pc := 27) C (as := [.int (nI r), .int (nI k)]) (st := []) (ev_throughBy (mf_lm V) U (r := r) (k := k) (by omega) (by omega)) (hz_new0 _ _) fyX11_throughBy fvX11_182 rfl dX11_through_27 hT146 rfl rfl hA146 rfl rfl (Nat.le_of_ble_eq_true rfl) (by decide) (hz_cap0 _) ?_
  exact hz_iret C Z rfl dX11_through_30 rfl rfl
set_option maxHeartbeats 4000000 in
set_option maxRecDepth 100000 in
theorem ev_which {I : Nat → Nat → Int32} {L : Nat → Nat → Int64} {q : Nat → Nat → Nat} {u : Nat → Nat} (V : HV 12 q I u) (U : WU u) : hz_Ev mX10_which TT NN (I, L, PP q) [.ref 1] 0 0 (some (.int (nI (bsum (fit u) (u 64))))) TT NN (msb (decide (0 < u 77) && decide (0 < u 64)) u I, L, PP q) := by
  refine hz_Ev.intro (ls := [some (.ref 1)]) (by decide +kernel) rfl (Nat.le_of_ble_eq_true rfl) (fun X C Z _ => ?_)
  refine hz_aload_n (pc := 0) C dX10_which_0 rfl ?_
  refine hz_getP (pc := 1) C (v := 12) ffX10_26 dX10_which_1 hT1 hA1 rfl (hP1_4 q) (by decide) ?_
  refine hz_callVs (pc := 4) C (as := []) (st := []) (ev_bitsFitting (L := L) V U) (hz_new0 _ _) fyX2_bitsFitting fvX10_225 rfl dX10_which_4 hT12 rfl rfl hA12 rfl rfl (Nat.le_of_ble_eq_true rfl) (by decide) (hz_cap0 _) ?_
  exact hz_iret C Z rfl dX10_which_7 rfl rfl
set_option maxHeartbeats 4000000 in
set_option maxRecDepth 100000 in
theorem ev_whichM {I : Nat → Nat → Int32} {L : Nat → Nat → Int64} {q : Nat → Nat → Nat} {u : Nat → Nat} (V : MV I u) (U : WU u) : hz_Ev mX11_which TT NN (I, L, PP q) [.ref 146] 0 0 (some (.int (nI (bsum (fit u) (u 64))))) TT NN (lm u I, L, PP q) := by
  refine hz_Ev.intro (ls := [some (.ref 146)]) (by decide +kernel) rfl (Nat.le_of_ble_eq_true rfl) (fun X C Z _ => ?_)
  refine hz_aload_n (pc := 0) C dX11_which_0 rfl ?_
  refine hz_callVv (pc := 1) C (as := []) (st := []) (ev_layFar V U) (hz_new0 _ _) fyX11_layFar fvX11_146 rfl dX11_which_1 hT146 rfl rfl hA146 rfl rfl (Nat.le_of_ble_eq_true rfl) (by decide) (hz_cap0 _) ?_
  refine hz_aload_n (pc := 4) C dX11_which_4 rfl ?_
  refine hz_callVs (pc := 5) C (as := []) (st := []) (ev_whichOnes (mf_lm V) U) (hz_new0 _ _) fyX11_whichOnes fvX11_209 rfl dX11_which_5 hT146 rfl rfl hA146 rfl rfl (Nat.le_of_ble_eq_true rfl) (by decide) (hz_cap0 _) ?_
  exact hz_iret C Z rfl dX11_which_8 rfl rfl
set_option maxHeartbeats 4000000 in
set_option maxRecDepth 100000 in
theorem ev_beeps {I : Nat → Nat → Int32} {L : Nat → Nat → Int64} {q : Nat → Nat → Nat} {u : Nat → Nat} (V : HV 12 q I u) (U : WU u) {k : Nat} (hk : k < u 64) {s : Nat} (hs : s ≤ 9999) : hz_Ev mX10_beeps TT NN (I, L, PP q) [.ref 1, .int (nI k), .int (nI s)] 0 0 (some (.int (hz_b (sin u k (nI s) = true)))) TT NN (I, L, PP q) := by
  have hal := wu_al U
  have hco := wu_co U
  have hkd := wu_kd U hk
  have hrm := wu_rm U hk
  have hba := wu_ba U hk
  refine hz_Ev.intro (ls := [some (.ref 1), some (.int (nI k)), some (.int (nI s))]) (by decide +kernel) rfl (Nat.le_of_ble_eq_true rfl) (fun X C Z _ => ?_)
  refine hz_aload_n (pc := 0) C dX10_beeps_0 rfl ?_
  refine hz_iload_n (pc := 1) C dX10_beeps_1 rfl ?_
  refine hz_callVs (pc := 2) C (as := [.int (nI k)]) (st := []) (ev_isAlarm V U (nI k)) (hz_new0 _ _) fyX10_isAlarm fvX10_123 rfl dX10_beeps_2 hT1 rfl rfl hA1 rfl rfl (Nat.le_of_ble_eq_true rfl) (by decide) (hz_cap0 _) ?_
  refine hz_ifb_eq (pc := 5) C (tgt := 15) dX10_beeps_5 rfl (fun cq => absurd (vk hk (wu_al U)) cq) (fun _ => ?_)
  refine hz_iload_n (pc := 8) C dX10_beeps_8 rfl ?_
  refine hz_callSs (pc := 9) C (as := [.int (nI s)]) (st := []) (ev_isSecond _ (nI s)) (hz_new0 _ _) fyX10_isSecond fsX10_161 rfl dX10_beeps_9 rfl rfl (Nat.le_of_ble_eq_true rfl) (by decide) (hz_cap0 _) ?_
  refine hz_ifb_ne (pc := 12) C (tgt := 20) dX10_beeps_12 rfl (fun _ => ?_) (fun cq => absurd (vs hs) cq)
  refine hz_aload_n (pc := 20) C dX10_beeps_20 rfl ?_
  refine hz_getP (pc := 21) C (v := 12) ffX10_26 dX10_beeps_21 hT1 hA1 rfl (hP1_4 q) (by decide) ?_
  refine hz_iload_n (pc := 24) C dX10_beeps_24 rfl ?_
  refine hz_iload_n (pc := 25) C dX10_beeps_25 rfl ?_
  refine hz_callVs (pc := 26) C (as := [.int (nI k), .int (nI s)]) (st := []) (ev_soundsIn V U (k := k) (by omega) (nI s)) (hz_new0 _ _) fyX2_soundsIn fvX10_164 rfl dX10_beeps_26 hT12 rfl rfl hA12 rfl rfl (Nat.le_of_ble_eq_true rfl) (by decide) (hz_cap0 _) ?_
  refine hz_ifb_eq (pc := 29) C (tgt := 36) dX10_beeps_29 rfl (fun c1 => ?_) (fun c1 => ?_)
  · refine hz_iconst (pc := 36) C (v := nI 0) dX10_beeps_36 (by decide +kernel) ?_
    exact hz_iret C Z rfl dX10_beeps_37 (hz_b0 c1).symm rfl
  · refine hz_iconst (pc := 32) C (v := nI 1) dX10_beeps_32 (by decide +kernel) ?_
    refine hz_goto (pc := 33) C (tgt := 37) dX10_beeps_33 rfl ?_
    exact hz_iret C Z rfl dX10_beeps_37 (hz_b1 c1).symm rfl
set_option maxHeartbeats 4000000 in
set_option maxRecDepth 100000 in
theorem ev_beepsM {I : Nat → Nat → Int32} {L : Nat → Nat → Int64} {q : Nat → Nat → Nat} {u : Nat → Nat} (V : MV I u) (U : WU u) {k : Nat} (hk : k < u 64) {s : Nat} (hs : s ≤ 9999) : hz_Ev mX11_beeps TT NN (I, L, PP q) [.ref 146, .int (nI k), .int (nI s)] 0 0 (some (.int (hz_b (sin u k (nI s) = true)))) TT NN (I, L, PP q) := by
  have hal := wu_al U
  have hco := wu_co U
  have hkd := wu_kd U hk
  have hrm := wu_rm U hk
  have hba := wu_ba U hk
  refine hz_Ev.intro (ls := [some (.ref 146), some (.int (nI k)), some (.int (nI s))]) (by decide +kernel) rfl (Nat.le_of_ble_eq_true rfl) (fun X C Z _ => ?_)
  refine hz_aload_n (pc := 0) C dX11_beeps_0 rfl ?_
  refine hz_iload_n (pc := 1) C dX11_beeps_1 rfl ?_
  refine hz_callVs (pc := 2) C (as := [.int (nI k)]) (st := []) (ev_isAlarmM V U (nI k)) (hz_new0 _ _) fyX11_isAlarm fvX11_160 rfl dX11_beeps_2 hT146 rfl rfl hA146 rfl rfl (Nat.le_of_ble_eq_true rfl) (by decide) (hz_cap0 _) ?_
  refine hz_ifb_eq (pc := 5) C (tgt := 19) dX11_beeps_5 rfl (fun cq => absurd (vk hk (wu_al U)) cq) (fun _ => ?_)
  refine hz_iload_n (pc := 8) C dX11_beeps_8 rfl ?_
  refine hz_iconst (pc := 9) C (v := nI 0) dX11_beeps_9 (by decide +kernel) ?_
  refine hz_sipush (pc := 10) C (v := nI 9999) dX11_beeps_10 (by decide +kernel) ?_
  refine hz_callSs (pc := 13) C (as := [.int (nI s), .int (nI 0), .int (nI 9999)]) (st := []) (ev_in _ (nI s) (nI 0) (nI 9999)) (hz_new0 _ _) fyX11_in fsX11_52 rfl dX11_beeps_13 rfl rfl (Nat.le_of_ble_eq_true rfl) (by decide) (hz_cap0 _) ?_
  refine hz_ifb_ne (pc := 16) C (tgt := 24) dX11_beeps_16 rfl (fun _ => ?_) (fun cq => absurd (vs hs) cq)
  refine hz_aload_n (pc := 24) C dX11_beeps_24 rfl ?_
  refine hz_iload_n (pc := 25) C dX11_beeps_25 rfl ?_
  refine hz_iload_n (pc := 26) C dX11_beeps_26 rfl ?_
  refine hz_aload_n (pc := 27) C dX11_beeps_27 rfl ?_
  refine hz_getP (pc := 28) C (v := 147) ffX11_7 dX11_beeps_28 hT146 hA146 rfl (hP146_0 q) (by decide) ?_
  refine hz_bipush (pc := 31) C (v := nI 92) dX11_beeps_31 (by decide +kernel) ?_
  refine hz_iald (pc := 33) C (v := nI (u 92)) (j := 92) dX11_beeps_33 hT147 hA147 rfl (by decide) (by decide) (mg V (by omega) (by omega)) ?_
  refine hz_callVs (pc := 34) C (as := [.int (nI k), .int (nI s), .int (nI (u 92))]) (st := []) (ev_beepsNow V U (k := k) (by omega) (nI s) (c := u 92) (by omega)) (hz_new0 _ _) fyX11_beepsNow fvX11_176 rfl dX11_beeps_34 hT146 rfl rfl hA146 rfl rfl (Nat.le_of_ble_eq_true rfl) (by decide) (hz_cap0 _) ?_
  refine hz_ifb_eq (pc := 37) C (tgt := 44) dX11_beeps_37 rfl (fun c1 => ?_) (fun c1 => ?_)
  · refine hz_iconst (pc := 44) C (v := nI 0) dX11_beeps_44 (by decide +kernel) ?_
    exact hz_iret C Z rfl dX11_beeps_45 (hz_b0 c1).symm rfl
  · refine hz_iconst (pc := 40) C (v := nI 1) dX11_beeps_40 (by decide +kernel) ?_
    refine hz_goto (pc := 41) C (tgt := 45) dX11_beeps_41 rfl ?_
    exact hz_iret C Z rfl dX11_beeps_45 (hz_b1 c1).symm rfl
set_option maxHeartbeats 4000000 in
set_option maxRecDepth 100000 in
theorem ev_heardX {I : Nat → Nat → Int32} {L : Nat → Nat → Int64} {q : Nat → Nat → Nat} {u : Nat → Nat} (V : HV 12 q I u) (U : WU u) (v1 v2 : Int32) (hb : ¬ ((¬ v1 < nI 0 ∧ ¬ nI 7 < v1) ∧ (¬ v2 < nI 0 ∧ ¬ nI 9999 < v2))) : hz_Ev mX10_heard TT NN (I, L, PP q) [.ref 1, .int v1, .int v2] 0 0 (some (.int (-2 : Int32))) TT NN (hz_up I 1 8 ((I 1 8) + (nI 1)), L, PP q) := by
  refine hz_Ev.intro (ls := [some (.ref 1), some (.int v1), some (.int v2)]) (by decide +kernel) rfl (Nat.le_of_ble_eq_true rfl) (fun X C Z _ => ?_)
  refine hz_iload_n (pc := 0) C dX10_heard_0 rfl ?_
  refine hz_callSs (pc := 1) C (as := [.int v1]) (st := []) (ev_isRoom _ v1) (hz_new0 _ _) fyX10_isRoom fsX10_55 rfl dX10_heard_1 rfl rfl (Nat.le_of_ble_eq_true rfl) (by decide) (hz_cap0 _) ?_
  refine hz_ifb_eq (pc := 4) C (tgt := 14) dX10_heard_4 rfl (fun c1 => ?_) (fun c1 => ?_)
  · refine hz_aload_n (pc := 14) C dX10_heard_14 rfl ?_
    refine hz_callVs (pc := 15) C (as := []) (st := []) ev_refBad (hz_new0 _ _) fyX10_refuseBad fvX10_74 rfl dX10_heard_15 hT1 rfl rfl hA1 rfl rfl (Nat.le_of_ble_eq_true rfl) (by decide) (hz_cap0 _) ?_
    exact hz_iret C Z rfl dX10_heard_18 rfl rfl
  · refine hz_iload_n (pc := 7) C dX10_heard_7 rfl ?_
    refine hz_callSs (pc := 8) C (as := [.int v2]) (st := []) (ev_isSecond _ v2) (hz_new0 _ _) fyX10_isSecond fsX10_161 rfl dX10_heard_8 rfl rfl (Nat.le_of_ble_eq_true rfl) (by decide) (hz_cap0 _) ?_
    refine hz_ifb_ne (pc := 11) C (tgt := 19) dX10_heard_11 rfl (fun c2 => ?_) (fun c2 => ?_)
    · exact absurd ⟨c1, c2⟩ hb
    · refine hz_aload_n (pc := 14) C dX10_heard_14 rfl ?_
      refine hz_callVs (pc := 15) C (as := []) (st := []) ev_refBad (hz_new0 _ _) fyX10_refuseBad fvX10_74 rfl dX10_heard_15 hT1 rfl rfl hA1 rfl rfl (Nat.le_of_ble_eq_true rfl) (by decide) (hz_cap0 _) ?_
      exact hz_iret C Z rfl dX10_heard_18 rfl rfl
set_option maxHeartbeats 4000000 in
set_option maxRecDepth 100000 in
theorem ev_heardXM {I : Nat → Nat → Int32} {L : Nat → Nat → Int64} {q : Nat → Nat → Nat} {u : Nat → Nat} (V : MV I u) (U : WU u) (v1 v2 : Int32) (hb : ¬ ((¬ v1 < nI 0 ∧ ¬ nI 7 < v1) ∧ (¬ v2 < nI 0 ∧ ¬ nI 9999 < v2))) : hz_Ev mX11_heard TT NN (I, L, PP q) [.ref 146, .int v1, .int v2] 0 0 (some (.int (-2 : Int32))) TT NN (hz_up I 151 0 ((I 151 0) + (nI 1)), L, PP q) := by
  refine hz_Ev.intro (ls := [some (.ref 146), some (.int v1), some (.int v2)]) (by decide +kernel) rfl (Nat.le_of_ble_eq_true rfl) (fun X C Z _ => ?_)
  refine hz_iload_n (pc := 0) C dX11_heard_0 rfl ?_
  refine hz_callSs (pc := 1) C (as := [.int v1]) (st := []) (ev_isRoomM _ v1) (hz_new0 _ _) fyX11_isRoom fsX11_56 rfl dX11_heard_1 rfl rfl (Nat.le_of_ble_eq_true rfl) (by decide) (hz_cap0 _) ?_
  refine hz_ifb_eq (pc := 4) C (tgt := 18) dX11_heard_4 rfl (fun c1 => ?_) (fun c1 => ?_)
  · refine hz_aload_n (pc := 18) C dX11_heard_18 rfl ?_
    refine hz_callVs (pc := 19) C (as := []) (st := []) ev_bad (hz_new0 _ _) fyX11_bad fvX11_60 rfl dX11_heard_19 hT146 rfl rfl hA146 rfl rfl (Nat.le_of_ble_eq_true rfl) (by decide) (hz_cap0 _) ?_
    exact hz_iret C Z rfl dX11_heard_22 rfl rfl
  · refine hz_iload_n (pc := 7) C dX11_heard_7 rfl ?_
    refine hz_iconst (pc := 8) C (v := nI 0) dX11_heard_8 (by decide +kernel) ?_
    refine hz_sipush (pc := 9) C (v := nI 9999) dX11_heard_9 (by decide +kernel) ?_
    refine hz_callSs (pc := 12) C (as := [.int v2, .int (nI 0), .int (nI 9999)]) (st := []) (ev_in _ v2 (nI 0) (nI 9999)) (hz_new0 _ _) fyX11_in fsX11_52 rfl dX11_heard_12 rfl rfl (Nat.le_of_ble_eq_true rfl) (by decide) (hz_cap0 _) ?_
    refine hz_ifb_ne (pc := 15) C (tgt := 23) dX11_heard_15 rfl (fun c2 => ?_) (fun c2 => ?_)
    · exact absurd ⟨c1, c2⟩ hb
    · refine hz_aload_n (pc := 18) C dX11_heard_18 rfl ?_
      refine hz_callVs (pc := 19) C (as := []) (st := []) ev_bad (hz_new0 _ _) fyX11_bad fvX11_60 rfl dX11_heard_19 hT146 rfl rfl hA146 rfl rfl (Nat.le_of_ble_eq_true rfl) (by decide) (hz_cap0 _) ?_
      exact hz_iret C Z rfl dX11_heard_22 rfl rfl
set_option maxHeartbeats 4000000 in
set_option maxRecDepth 100000 in
theorem ev_farX2 {I : Nat → Nat → Int32} {L : Nat → Nat → Int64} {q : Nat → Nat → Nat} {u : Nat → Nat} (V : HV 12 q I u) (U : WU u) (v1 v2 : Int32) (hb : ¬ ((¬ v1 < nI 0 ∧ ¬ nI 7 < v1) ∧ (¬ v2 < nI 0 ∧ ¬ nI 7 < v2))) : hz_Ev mX10_far TT NN (I, L, PP q) [.ref 1, .int v1, .int v2] 0 0 (some (.int (-2 : Int32))) TT NN (hz_up I 1 8 ((I 1 8) + (nI 1)), L, PP q) := by
  refine hz_Ev.intro (ls := [some (.ref 1), some (.int v1), some (.int v2), none]) (by decide +kernel) rfl (Nat.le_of_ble_eq_true rfl) (fun X C Z _ => ?_)
  refine hz_iload_n (pc := 0) C dX10_far_0 rfl ?_
  refine hz_callSs (pc := 1) C (as := [.int v1]) (st := []) (ev_isRoom _ v1) (hz_new0 _ _) fyX10_isRoom fsX10_55 rfl dX10_far_1 rfl rfl (Nat.le_of_ble_eq_true rfl) (by decide) (hz_cap0 _) ?_
  refine hz_ifb_eq (pc := 4) C (tgt := 14) dX10_far_4 rfl (fun c1 => ?_) (fun c1 => ?_)
  · refine hz_aload_n (pc := 14) C dX10_far_14 rfl ?_
    refine hz_callVs (pc := 15) C (as := []) (st := []) ev_refBad (hz_new0 _ _) fyX10_refuseBad fvX10_74 rfl dX10_far_15 hT1 rfl rfl hA1 rfl rfl (Nat.le_of_ble_eq_true rfl) (by decide) (hz_cap0 _) ?_
    exact hz_iret C Z rfl dX10_far_18 rfl rfl
  · refine hz_iload_n (pc := 7) C dX10_far_7 rfl ?_
    refine hz_callSs (pc := 8) C (as := [.int v2]) (st := []) (ev_isRoom _ v2) (hz_new0 _ _) fyX10_isRoom fsX10_55 rfl dX10_far_8 rfl rfl (Nat.le_of_ble_eq_true rfl) (by decide) (hz_cap0 _) ?_
    refine hz_ifb_ne (pc := 11) C (tgt := 19) dX10_far_11 rfl (fun c2 => ?_) (fun c2 => ?_)
    · exact absurd ⟨c1, c2⟩ hb
    · refine hz_aload_n (pc := 14) C dX10_far_14 rfl ?_
      refine hz_callVs (pc := 15) C (as := []) (st := []) ev_refBad (hz_new0 _ _) fyX10_refuseBad fvX10_74 rfl dX10_far_15 hT1 rfl rfl hA1 rfl rfl (Nat.le_of_ble_eq_true rfl) (by decide) (hz_cap0 _) ?_
      exact hz_iret C Z rfl dX10_far_18 rfl rfl
set_option maxHeartbeats 4000000 in
set_option maxRecDepth 100000 in
theorem ev_farX2M {I : Nat → Nat → Int32} {L : Nat → Nat → Int64} {q : Nat → Nat → Nat} {u : Nat → Nat} (V : MV I u) (U : WU u) (v1 v2 : Int32) (hb : ¬ ((¬ v1 < nI 0 ∧ ¬ nI 7 < v1) ∧ (¬ v2 < nI 0 ∧ ¬ nI 7 < v2))) : hz_Ev mX11_far TT NN (I, L, PP q) [.ref 146, .int v1, .int v2] 0 0 (some (.int (-2 : Int32))) TT NN (hz_up I 151 0 ((I 151 0) + (nI 1)), L, PP q) := by
  refine hz_Ev.intro (ls := [some (.ref 146), some (.int v1), some (.int v2)]) (by decide +kernel) rfl (Nat.le_of_ble_eq_true rfl) (fun X C Z _ => ?_)
  refine hz_iload_n (pc := 0) C dX11_far_0 rfl ?_
  refine hz_callSs (pc := 1) C (as := [.int v1]) (st := []) (ev_isRoomM _ v1) (hz_new0 _ _) fyX11_isRoom fsX11_56 rfl dX11_far_1 rfl rfl (Nat.le_of_ble_eq_true rfl) (by decide) (hz_cap0 _) ?_
  refine hz_ifb_eq (pc := 4) C (tgt := 14) dX11_far_4 rfl (fun c1 => ?_) (fun c1 => ?_)
  · refine hz_aload_n (pc := 14) C dX11_far_14 rfl ?_
    refine hz_callVs (pc := 15) C (as := []) (st := []) ev_bad (hz_new0 _ _) fyX11_bad fvX11_60 rfl dX11_far_15 hT146 rfl rfl hA146 rfl rfl (Nat.le_of_ble_eq_true rfl) (by decide) (hz_cap0 _) ?_
    exact hz_iret C Z rfl dX11_far_18 rfl rfl
  · refine hz_iload_n (pc := 7) C dX11_far_7 rfl ?_
    refine hz_callSs (pc := 8) C (as := [.int v2]) (st := []) (ev_isRoomM _ v2) (hz_new0 _ _) fyX11_isRoom fsX11_56 rfl dX11_far_8 rfl rfl (Nat.le_of_ble_eq_true rfl) (by decide) (hz_cap0 _) ?_
    refine hz_ifb_ne (pc := 11) C (tgt := 19) dX11_far_11 rfl (fun c2 => ?_) (fun c2 => ?_)
    · exact absurd ⟨c1, c2⟩ hb
    · refine hz_aload_n (pc := 14) C dX11_far_14 rfl ?_
      refine hz_callVs (pc := 15) C (as := []) (st := []) ev_bad (hz_new0 _ _) fyX11_bad fvX11_60 rfl dX11_far_15 hT146 rfl rfl hA146 rfl rfl (Nat.le_of_ble_eq_true rfl) (by decide) (hz_cap0 _) ?_
      exact hz_iret C Z rfl dX11_far_18 rfl rfl
set_option maxHeartbeats 4000000 in
set_option maxRecDepth 100000 in
theorem ev_throughX {I : Nat → Nat → Int32} {L : Nat → Nat → Int64} {q : Nat → Nat → Nat} {u : Nat → Nat} (V : HV 12 q I u) (U : WU u) (v1 v2 : Int32) (hb : ¬ ((¬ v1 < nI 0 ∧ ¬ nI 7 < v1) ∧ (¬ v2 < nI 0 ∧ ¬ nI (u 64) - nI 1 < v2))) : hz_Ev mX10_through TT NN (I, L, PP q) [.ref 1, .int v1, .int v2] 0 0 (some (.int (-2 : Int32))) TT NN (hz_up I 1 8 ((I 1 8) + (nI 1)), L, PP q) := by
  refine hz_Ev.intro (ls := [some (.ref 1), some (.int v1), some (.int v2)]) (by decide +kernel) rfl (Nat.le_of_ble_eq_true rfl) (fun X C Z _ => ?_)
  refine hz_iload_n (pc := 0) C dX10_through_0 rfl ?_
  refine hz_callSs (pc := 1) C (as := [.int v1]) (st := []) (ev_isRoom _ v1) (hz_new0 _ _) fyX10_isRoom fsX10_55 rfl dX10_through_1 rfl rfl (Nat.le_of_ble_eq_true rfl) (by decide) (hz_cap0 _) ?_
  refine hz_ifb_eq (pc := 4) C (tgt := 15) dX10_through_4 rfl (fun c1 => ?_) (fun c1 => ?_)
  · refine hz_aload_n (pc := 15) C dX10_through_15 rfl ?_
    refine hz_callVs (pc := 16) C (as := []) (st := []) ev_refBad (hz_new0 _ _) fyX10_refuseBad fvX10_74 rfl dX10_through_16 hT1 rfl rfl hA1 rfl rfl (Nat.le_of_ble_eq_true rfl) (by decide) (hz_cap0 _) ?_
    exact hz_iret C Z rfl dX10_through_19 rfl rfl
  · refine hz_aload_n (pc := 7) C dX10_through_7 rfl ?_
    refine hz_iload_n (pc := 8) C dX10_through_8 rfl ?_
    refine hz_callVs (pc := 9) C (as := [.int v2]) (st := []) (ev_isAlarm V U v2) (hz_new0 _ _) fyX10_isAlarm fvX10_123 rfl dX10_through_9 hT1 rfl rfl hA1 rfl rfl (Nat.le_of_ble_eq_true rfl) (by decide) (hz_cap0 _) ?_
    refine hz_ifb_ne (pc := 12) C (tgt := 20) dX10_through_12 rfl (fun c2 => ?_) (fun c2 => ?_)
    · exact absurd ⟨c1, c2⟩ hb
    · refine hz_aload_n (pc := 15) C dX10_through_15 rfl ?_
      refine hz_callVs (pc := 16) C (as := []) (st := []) ev_refBad (hz_new0 _ _) fyX10_refuseBad fvX10_74 rfl dX10_through_16 hT1 rfl rfl hA1 rfl rfl (Nat.le_of_ble_eq_true rfl) (by decide) (hz_cap0 _) ?_
      exact hz_iret C Z rfl dX10_through_19 rfl rfl
set_option maxHeartbeats 4000000 in
set_option maxRecDepth 100000 in
theorem ev_throughXM {I : Nat → Nat → Int32} {L : Nat → Nat → Int64} {q : Nat → Nat → Nat} {u : Nat → Nat} (V : MV I u) (U : WU u) (v1 v2 : Int32) (hb : ¬ ((¬ v1 < nI 0 ∧ ¬ nI 7 < v1) ∧ (¬ v2 < nI 0 ∧ ¬ nI (u 64) - nI 1 < v2))) : hz_Ev mX11_through TT NN (I, L, PP q) [.ref 146, .int v1, .int v2] 0 0 (some (.int (-2 : Int32))) TT NN (hz_up I 151 0 ((I 151 0) + (nI 1)), L, PP q) := by
  refine hz_Ev.intro (ls := [some (.ref 146), some (.int v1), some (.int v2)]) (by decide +kernel) rfl (Nat.le_of_ble_eq_true rfl) (fun X C Z _ => ?_)
  refine hz_iload_n (pc := 0) C dX11_through_0 rfl ?_
  refine hz_callSs (pc := 1) C (as := [.int v1]) (st := []) (ev_isRoomM _ v1) (hz_new0 _ _) fyX11_isRoom fsX11_56 rfl dX11_through_1 rfl rfl (Nat.le_of_ble_eq_true rfl) (by decide) (hz_cap0 _) ?_
  refine hz_ifb_eq (pc := 4) C (tgt := 15) dX11_through_4 rfl (fun c1 => ?_) (fun c1 => ?_)
  · refine hz_aload_n (pc := 15) C dX11_through_15 rfl ?_
    refine hz_callVs (pc := 16) C (as := []) (st := []) ev_bad (hz_new0 _ _) fyX11_bad fvX11_60 rfl dX11_through_16 hT146 rfl rfl hA146 rfl rfl (Nat.le_of_ble_eq_true rfl) (by decide) (hz_cap0 _) ?_
    exact hz_iret C Z rfl dX11_through_19 rfl rfl
  · refine hz_aload_n (pc := 7) C dX11_through_7 rfl ?_
    refine hz_iload_n (pc := 8) C dX11_through_8 rfl ?_
    refine hz_callVs (pc := 9) C (as := [.int v2]) (st := []) (ev_isAlarmM V U v2) (hz_new0 _ _) fyX11_isAlarm fvX11_160 rfl dX11_through_9 hT146 rfl rfl hA146 rfl rfl (Nat.le_of_ble_eq_true rfl) (by decide) (hz_cap0 _) ?_
    refine hz_ifb_ne (pc := 12) C (tgt := 20) dX11_through_12 rfl (fun c2 => ?_) (fun c2 => ?_)
    · exact absurd ⟨c1, c2⟩ hb
    · refine hz_aload_n (pc := 15) C dX11_through_15 rfl ?_
      refine hz_callVs (pc := 16) C (as := []) (st := []) ev_bad (hz_new0 _ _) fyX11_bad fvX11_60 rfl dX11_through_16 hT146 rfl rfl hA146 rfl rfl (Nat.le_of_ble_eq_true rfl) (by decide) (hz_cap0 _) ?_
      exact hz_iret C Z rfl dX11_through_19 rfl rfl

set_option maxHeartbeats 4000000 in
set_option maxRecDepth 100000 in
theorem ev_doorX {I : Nat → Nat → Int32} {L : Nat → Nat → Int64} {q : Nat → Nat → Nat} {u : Nat → Nat} (V : HV 12 q I u) (U : WU u) (v1 v2 v3 : Int32) (hb : ¬ ((¬ v1 < nI 0 ∧ ¬ nI 7 < v1) ∧ (¬ v2 < nI 0 ∧ ¬ nI 7 < v2) ∧ (¬ v1 = v2) ∧ (¬ v3 < nI 1 ∧ ¬ nI 9 < v3))) : hz_Ev mX10_door TT NN (I, L, PP q) [.ref 1, .int v1, .int v2, .int v3] 0 0 (some (.int (-10 : Int32))) TT NN (hz_up I 1 8 ((I 1 8) + (nI 1)), L, PP q) := by
  refine hz_Ev.intro (ls := [some (.ref 1), some (.int v1), some (.int v2), some (.int v3), none]) (by decide +kernel) rfl (Nat.le_of_ble_eq_true rfl) (fun X C Z _ => ?_)
  refine hz_iload_n (pc := 0) C dX10_door_0 rfl ?_
  refine hz_callSs (pc := 1) C (as := [.int v1]) (st := []) (ev_isRoom _ v1) (hz_new0 _ _) fyX10_isRoom fsX10_55 rfl dX10_door_1 rfl rfl (Nat.le_of_ble_eq_true rfl) (by decide) (hz_cap0 _) ?_
  refine hz_ifb_eq (pc := 4) C (tgt := 29) dX10_door_4 rfl (fun c1 => ?_) (fun c1 => ?_)
  · refine hz_aload_n (pc := 29) C dX10_door_29 rfl ?_
    refine hz_dup (pc := 30) C dX10_door_30 rfl ?_
    refine hz_getI (pc := 31) C (v := I 1 8) ffX10_63 dX10_door_31 hT1 hA1 rfl rfl ?_
    refine hz_iconst (pc := 34) C (v := nI 1) dX10_door_34 (by decide +kernel) ?_
    refine hz_iadd (pc := 35) C dX10_door_35 rfl ?_
    refine hz_putI (pc := 36) C (M' := (hz_up I 1 8 ((I 1 8) + (nI 1)), L, PP q)) ffX10_63 dX10_door_36 hT1 hA1 rfl rfl ⟨rfl, rfl⟩ rfl ?_
    refine hz_bipush (pc := 39) C (v := (-10 : Int32)) dX10_door_39 (by decide +kernel) ?_
    exact hz_iret C Z rfl dX10_door_41 rfl rfl
  · refine hz_iload_n (pc := 7) C dX10_door_7 rfl ?_
    refine hz_callSs (pc := 8) C (as := [.int v2]) (st := []) (ev_isRoom _ v2) (hz_new0 _ _) fyX10_isRoom fsX10_55 rfl dX10_door_8 rfl rfl (Nat.le_of_ble_eq_true rfl) (by decide) (hz_cap0 _) ?_
    refine hz_ifb_eq (pc := 11) C (tgt := 29) dX10_door_11 rfl (fun c2 => ?_) (fun c2 => ?_)
    · refine hz_aload_n (pc := 29) C dX10_door_29 rfl ?_
      refine hz_dup (pc := 30) C dX10_door_30 rfl ?_
      refine hz_getI (pc := 31) C (v := I 1 8) ffX10_63 dX10_door_31 hT1 hA1 rfl rfl ?_
      refine hz_iconst (pc := 34) C (v := nI 1) dX10_door_34 (by decide +kernel) ?_
      refine hz_iadd (pc := 35) C dX10_door_35 rfl ?_
      refine hz_putI (pc := 36) C (M' := (hz_up I 1 8 ((I 1 8) + (nI 1)), L, PP q)) ffX10_63 dX10_door_36 hT1 hA1 rfl rfl ⟨rfl, rfl⟩ rfl ?_
      refine hz_bipush (pc := 39) C (v := (-10 : Int32)) dX10_door_39 (by decide +kernel) ?_
      exact hz_iret C Z rfl dX10_door_41 rfl rfl
    · refine hz_iload_n (pc := 14) C dX10_door_14 rfl ?_
      refine hz_iload_n (pc := 15) C dX10_door_15 rfl ?_
      refine hz_ic_eq (pc := 16) C (tgt := 29) dX10_door_16 rfl (fun c3 => ?_) (fun c3 => ?_)
      · refine hz_aload_n (pc := 29) C dX10_door_29 rfl ?_
        refine hz_dup (pc := 30) C dX10_door_30 rfl ?_
        refine hz_getI (pc := 31) C (v := I 1 8) ffX10_63 dX10_door_31 hT1 hA1 rfl rfl ?_
        refine hz_iconst (pc := 34) C (v := nI 1) dX10_door_34 (by decide +kernel) ?_
        refine hz_iadd (pc := 35) C dX10_door_35 rfl ?_
        refine hz_putI (pc := 36) C (M' := (hz_up I 1 8 ((I 1 8) + (nI 1)), L, PP q)) ffX10_63 dX10_door_36 hT1 hA1 rfl rfl ⟨rfl, rfl⟩ rfl ?_
        refine hz_bipush (pc := 39) C (v := (-10 : Int32)) dX10_door_39 (by decide +kernel) ?_
        exact hz_iret C Z rfl dX10_door_41 rfl rfl
      · refine hz_iload_n (pc := 19) C dX10_door_19 rfl ?_
        refine hz_iconst (pc := 20) C (v := nI 1) dX10_door_20 (by decide +kernel) ?_
        refine hz_bipush (pc := 21) C (v := nI 9) dX10_door_21 (by decide +kernel) ?_
        refine hz_callSs (pc := 23) C (as := [.int v3, .int (nI 1), .int (nI 9)]) (st := []) (ev_within _ v3 (nI 1) (nI 9)) (hz_new0 _ _) fyX10_within fsX10_59 rfl dX10_door_23 rfl rfl (Nat.le_of_ble_eq_true rfl) (by decide) (hz_cap0 _) ?_
        refine hz_ifb_ne (pc := 26) C (tgt := 42) dX10_door_26 rfl (fun c4 => ?_) (fun c4 => ?_)
        · exact absurd ⟨c1, c2, c3, c4⟩ hb
        · refine hz_aload_n (pc := 29) C dX10_door_29 rfl ?_
          refine hz_dup (pc := 30) C dX10_door_30 rfl ?_
          refine hz_getI (pc := 31) C (v := I 1 8) ffX10_63 dX10_door_31 hT1 hA1 rfl rfl ?_
          refine hz_iconst (pc := 34) C (v := nI 1) dX10_door_34 (by decide +kernel) ?_
          refine hz_iadd (pc := 35) C dX10_door_35 rfl ?_
          refine hz_putI (pc := 36) C (M' := (hz_up I 1 8 ((I 1 8) + (nI 1)), L, PP q)) ffX10_63 dX10_door_36 hT1 hA1 rfl rfl ⟨rfl, rfl⟩ rfl ?_
          refine hz_bipush (pc := 39) C (v := (-10 : Int32)) dX10_door_39 (by decide +kernel) ?_
          exact hz_iret C Z rfl dX10_door_41 rfl rfl
set_option maxHeartbeats 4000000 in
set_option maxRecDepth 100000 in
theorem ev_doorXM {I : Nat → Nat → Int32} {L : Nat → Nat → Int64} {q : Nat → Nat → Nat} {u : Nat → Nat} (V : MV I u) (U : WU u) (v1 v2 v3 : Int32) (hb : ¬ ((¬ v1 < nI 0 ∧ ¬ nI 7 < v1) ∧ (¬ v2 < nI 0 ∧ ¬ nI 7 < v2) ∧ (¬ v1 = v2) ∧ (¬ v3 < nI 1 ∧ ¬ nI 9 < v3))) : hz_Ev mX11_door TT NN (I, L, PP q) [.ref 146, .int v1, .int v2, .int v3] 0 0 (some (.int (-10 : Int32))) TT NN (hz_up I 151 0 ((I 151 0) + (nI 1)), L, PP q) := by
  refine hz_Ev.intro (ls := [some (.ref 146), some (.int v1), some (.int v2), some (.int v3), none]) (by decide +kernel) rfl (Nat.le_of_ble_eq_true rfl) (fun X C Z _ => ?_)
  refine hz_iload_n (pc := 0) C dX11_door_0 rfl ?_
  refine hz_callSs (pc := 1) C (as := [.int v1]) (st := []) (ev_isRoomM _ v1) (hz_new0 _ _) fyX11_isRoom fsX11_56 rfl dX11_door_1 rfl rfl (Nat.le_of_ble_eq_true rfl) (by decide) (hz_cap0 _) ?_
  refine hz_ifb_eq (pc := 4) C (tgt := 29) dX11_door_4 rfl (fun c1 => ?_) (fun c1 => ?_)
  · refine hz_aload_n (pc := 29) C dX11_door_29 rfl ?_
    refine hz_getP (pc := 30) C (v := 151) ffX11_23 dX11_door_30 hT146 hA146 rfl (hP146_4 q) (by decide) ?_
    refine hz_iconst (pc := 33) C (v := nI 0) dX11_door_33 (by decide +kernel) ?_
    refine hz_dup2 (pc := 34) C dX11_door_34 rfl rfl ?_
    refine hz_iald (pc := 35) C (v := I 151 0) (j := 0) dX11_door_35 hT151 hA151 rfl (by decide) (by decide) rfl ?_
    refine hz_iconst (pc := 36) C (v := nI 1) dX11_door_36 (by decide +kernel) ?_
    refine hz_iadd (pc := 37) C dX11_door_37 rfl ?_
    refine hz_iast (pc := 38) C (v := (I 151 0) + (nI 1)) (j := 0) (M' := (hz_up I 151 0 ((I 151 0) + (nI 1)), L, PP q)) dX11_door_38 hT151 hA151 rfl (by decide) (by decide) rfl rfl ?_
    refine hz_bipush (pc := 39) C (v := (-10 : Int32)) dX11_door_39 (by decide +kernel) ?_
    exact hz_iret C Z rfl dX11_door_41 rfl rfl
  · refine hz_iload_n (pc := 7) C dX11_door_7 rfl ?_
    refine hz_callSs (pc := 8) C (as := [.int v2]) (st := []) (ev_isRoomM _ v2) (hz_new0 _ _) fyX11_isRoom fsX11_56 rfl dX11_door_8 rfl rfl (Nat.le_of_ble_eq_true rfl) (by decide) (hz_cap0 _) ?_
    refine hz_ifb_eq (pc := 11) C (tgt := 29) dX11_door_11 rfl (fun c2 => ?_) (fun c2 => ?_)
    · refine hz_aload_n (pc := 29) C dX11_door_29 rfl ?_
      refine hz_getP (pc := 30) C (v := 151) ffX11_23 dX11_door_30 hT146 hA146 rfl (hP146_4 q) (by decide) ?_
      refine hz_iconst (pc := 33) C (v := nI 0) dX11_door_33 (by decide +kernel) ?_
      refine hz_dup2 (pc := 34) C dX11_door_34 rfl rfl ?_
      refine hz_iald (pc := 35) C (v := I 151 0) (j := 0) dX11_door_35 hT151 hA151 rfl (by decide) (by decide) rfl ?_
      refine hz_iconst (pc := 36) C (v := nI 1) dX11_door_36 (by decide +kernel) ?_
      refine hz_iadd (pc := 37) C dX11_door_37 rfl ?_
      refine hz_iast (pc := 38) C (v := (I 151 0) + (nI 1)) (j := 0) (M' := (hz_up I 151 0 ((I 151 0) + (nI 1)), L, PP q)) dX11_door_38 hT151 hA151 rfl (by decide) (by decide) rfl rfl ?_
      refine hz_bipush (pc := 39) C (v := (-10 : Int32)) dX11_door_39 (by decide +kernel) ?_
      exact hz_iret C Z rfl dX11_door_41 rfl rfl
    · refine hz_iload_n (pc := 14) C dX11_door_14 rfl ?_
      refine hz_iload_n (pc := 15) C dX11_door_15 rfl ?_
      refine hz_ic_eq (pc := 16) C (tgt := 29) dX11_door_16 rfl (fun c3 => ?_) (fun c3 => ?_)
      · refine hz_aload_n (pc := 29) C dX11_door_29 rfl ?_
        refine hz_getP (pc := 30) C (v := 151) ffX11_23 dX11_door_30 hT146 hA146 rfl (hP146_4 q) (by decide) ?_
        refine hz_iconst (pc := 33) C (v := nI 0) dX11_door_33 (by decide +kernel) ?_
        refine hz_dup2 (pc := 34) C dX11_door_34 rfl rfl ?_
        refine hz_iald (pc := 35) C (v := I 151 0) (j := 0) dX11_door_35 hT151 hA151 rfl (by decide) (by decide) rfl ?_
        refine hz_iconst (pc := 36) C (v := nI 1) dX11_door_36 (by decide +kernel) ?_
        refine hz_iadd (pc := 37) C dX11_door_37 rfl ?_
        refine hz_iast (pc := 38) C (v := (I 151 0) + (nI 1)) (j := 0) (M' := (hz_up I 151 0 ((I 151 0) + (nI 1)), L, PP q)) dX11_door_38 hT151 hA151 rfl (by decide) (by decide) rfl rfl ?_
        refine hz_bipush (pc := 39) C (v := (-10 : Int32)) dX11_door_39 (by decide +kernel) ?_
        exact hz_iret C Z rfl dX11_door_41 rfl rfl
      · refine hz_iload_n (pc := 19) C dX11_door_19 rfl ?_
        refine hz_iconst (pc := 20) C (v := nI 1) dX11_door_20 (by decide +kernel) ?_
        refine hz_bipush (pc := 21) C (v := nI 9) dX11_door_21 (by decide +kernel) ?_
        refine hz_callSs (pc := 23) C (as := [.int v3, .int (nI 1), .int (nI 9)]) (st := []) (ev_in _ v3 (nI 1) (nI 9)) (hz_new0 _ _) fyX11_in fsX11_52 rfl dX11_door_23 rfl rfl (Nat.le_of_ble_eq_true rfl) (by decide) (hz_cap0 _) ?_
        refine hz_ifb_ne (pc := 26) C (tgt := 42) dX11_door_26 rfl (fun c4 => ?_) (fun c4 => ?_)
        · exact absurd ⟨c1, c2, c3, c4⟩ hb
        · refine hz_aload_n (pc := 29) C dX11_door_29 rfl ?_
          refine hz_getP (pc := 30) C (v := 151) ffX11_23 dX11_door_30 hT146 hA146 rfl (hP146_4 q) (by decide) ?_
          refine hz_iconst (pc := 33) C (v := nI 0) dX11_door_33 (by decide +kernel) ?_
          refine hz_dup2 (pc := 34) C dX11_door_34 rfl rfl ?_
          refine hz_iald (pc := 35) C (v := I 151 0) (j := 0) dX11_door_35 hT151 hA151 rfl (by decide) (by decide) rfl ?_
          refine hz_iconst (pc := 36) C (v := nI 1) dX11_door_36 (by decide +kernel) ?_
          refine hz_iadd (pc := 37) C dX11_door_37 rfl ?_
          refine hz_iast (pc := 38) C (v := (I 151 0) + (nI 1)) (j := 0) (M' := (hz_up I 151 0 ((I 151 0) + (nI 1)), L, PP q)) dX11_door_38 hT151 hA151 rfl (by decide) (by decide) rfl rfl ?_
          refine hz_bipush (pc := 39) C (v := (-10 : Int32)) dX11_door_39 (by decide +kernel) ?_
          exact hz_iret C Z rfl dX11_door_41 rfl rfl
set_option maxHeartbeats 4000000 in
set_option maxRecDepth 100000 in
theorem ev_alarmX {I : Nat → Nat → Int32} {L : Nat → Nat → Int64} {q : Nat → Nat → Nat} {u : Nat → Nat} (V : HV 12 q I u) (U : WU u) (v1 v2 v3 : Int32) (hb : ¬ ((¬ v1 < nI 0 ∧ ¬ nI 5 < v1) ∧ (¬ v2 < nI 0 ∧ ¬ nI 7 < v2) ∧ (¬ v3 < nI 0 ∧ ¬ nI 99 < v3))) : hz_Ev mX10_alarm TT NN (I, L, PP q) [.ref 1, .int v1, .int v2, .int v3] 0 0 (some (.int (-2 : Int32))) TT NN (hz_up I 1 8 ((I 1 8) + (nI 1)), L, PP q) := by
  refine hz_Ev.intro (ls := [some (.ref 1), some (.int v1), some (.int v2), some (.int v3)]) (by decide +kernel) rfl (Nat.le_of_ble_eq_true rfl) (fun X C Z _ => ?_)
  refine hz_iload_n (pc := 0) C dX10_alarm_0 rfl ?_
  refine hz_iconst (pc := 1) C (v := nI 0) dX10_alarm_1 (by decide +kernel) ?_
  refine hz_iconst (pc := 2) C (v := nI 5) dX10_alarm_2 (by decide +kernel) ?_
  refine hz_callSs (pc := 3) C (as := [.int v1, .int (nI 0), .int (nI 5)]) (st := []) (ev_within _ v1 (nI 0) (nI 5)) (hz_new0 _ _) fyX10_within fsX10_59 rfl dX10_alarm_3 rfl rfl (Nat.le_of_ble_eq_true rfl) (by decide) (hz_cap0 _) ?_
  refine hz_ifb_eq (pc := 6) C (tgt := 26) dX10_alarm_6 rfl (fun c1 => ?_) (fun c1 => ?_)
  · refine hz_aload_n (pc := 26) C dX10_alarm_26 rfl ?_
    refine hz_callVs (pc := 27) C (as := []) (st := []) ev_refBad (hz_new0 _ _) fyX10_refuseBad fvX10_74 rfl dX10_alarm_27 hT1 rfl rfl hA1 rfl rfl (Nat.le_of_ble_eq_true rfl) (by decide) (hz_cap0 _) ?_
    exact hz_iret C Z rfl dX10_alarm_30 rfl rfl
  · refine hz_iload_n (pc := 9) C dX10_alarm_9 rfl ?_
    refine hz_callSs (pc := 10) C (as := [.int v2]) (st := []) (ev_isRoom _ v2) (hz_new0 _ _) fyX10_isRoom fsX10_55 rfl dX10_alarm_10 rfl rfl (Nat.le_of_ble_eq_true rfl) (by decide) (hz_cap0 _) ?_
    refine hz_ifb_eq (pc := 13) C (tgt := 26) dX10_alarm_13 rfl (fun c2 => ?_) (fun c2 => ?_)
    · refine hz_aload_n (pc := 26) C dX10_alarm_26 rfl ?_
      refine hz_callVs (pc := 27) C (as := []) (st := []) ev_refBad (hz_new0 _ _) fyX10_refuseBad fvX10_74 rfl dX10_alarm_27 hT1 rfl rfl hA1 rfl rfl (Nat.le_of_ble_eq_true rfl) (by decide) (hz_cap0 _) ?_
      exact hz_iret C Z rfl dX10_alarm_30 rfl rfl
    · refine hz_iload_n (pc := 16) C dX10_alarm_16 rfl ?_
      refine hz_iconst (pc := 17) C (v := nI 0) dX10_alarm_17 (by decide +kernel) ?_
      refine hz_bipush (pc := 18) C (v := nI 99) dX10_alarm_18 (by decide +kernel) ?_
      refine hz_callSs (pc := 20) C (as := [.int v3, .int (nI 0), .int (nI 99)]) (st := []) (ev_within _ v3 (nI 0) (nI 99)) (hz_new0 _ _) fyX10_within fsX10_59 rfl dX10_alarm_20 rfl rfl (Nat.le_of_ble_eq_true rfl) (by decide) (hz_cap0 _) ?_
      refine hz_ifb_ne (pc := 23) C (tgt := 31) dX10_alarm_23 rfl (fun c3 => ?_) (fun c3 => ?_)
      · exact absurd ⟨c1, c2, c3⟩ hb
      · refine hz_aload_n (pc := 26) C dX10_alarm_26 rfl ?_
        refine hz_callVs (pc := 27) C (as := []) (st := []) ev_refBad (hz_new0 _ _) fyX10_refuseBad fvX10_74 rfl dX10_alarm_27 hT1 rfl rfl hA1 rfl rfl (Nat.le_of_ble_eq_true rfl) (by decide) (hz_cap0 _) ?_
        exact hz_iret C Z rfl dX10_alarm_30 rfl rfl
set_option maxHeartbeats 4000000 in
set_option maxRecDepth 100000 in
theorem ev_alarmXM {I : Nat → Nat → Int32} {L : Nat → Nat → Int64} {q : Nat → Nat → Nat} {u : Nat → Nat} (V : MV I u) (U : WU u) (v1 v2 v3 : Int32) (hb : ¬ ((¬ v1 < nI 0 ∧ ¬ nI 5 < v1) ∧ (¬ v2 < nI 0 ∧ ¬ nI 7 < v2) ∧ (¬ v3 < nI 0 ∧ ¬ nI 99 < v3))) : hz_Ev mX11_alarm TT NN (I, L, PP q) [.ref 146, .int v1, .int v2, .int v3] 0 0 (some (.int (-2 : Int32))) TT NN (hz_up I 151 0 ((I 151 0) + (nI 1)), L, PP q) := by
  refine hz_Ev.intro (ls := [some (.ref 146), some (.int v1), some (.int v2), some (.int v3)]) (by decide +kernel) rfl (Nat.le_of_ble_eq_true rfl) (fun X C Z _ => ?_)
  refine hz_iload_n (pc := 0) C dX11_alarm_0 rfl ?_
  refine hz_iconst (pc := 1) C (v := nI 0) dX11_alarm_1 (by decide +kernel) ?_
  refine hz_iconst (pc := 2) C (v := nI 5) dX11_alarm_2 (by decide +kernel) ?_
  refine hz_callSs (pc := 3) C (as := [.int v1, .int (nI 0), .int (nI 5)]) (st := []) (ev_in _ v1 (nI 0) (nI 5)) (hz_new0 _ _) fyX11_in fsX11_52 rfl dX11_alarm_3 rfl rfl (Nat.le_of_ble_eq_true rfl) (by decide) (hz_cap0 _) ?_
  refine hz_ifb_eq (pc := 6) C (tgt := 26) dX11_alarm_6 rfl (fun c1 => ?_) (fun c1 => ?_)
  · refine hz_aload_n (pc := 26) C dX11_alarm_26 rfl ?_
    refine hz_callVs (pc := 27) C (as := []) (st := []) ev_bad (hz_new0 _ _) fyX11_bad fvX11_60 rfl dX11_alarm_27 hT146 rfl rfl hA146 rfl rfl (Nat.le_of_ble_eq_true rfl) (by decide) (hz_cap0 _) ?_
    exact hz_iret C Z rfl dX11_alarm_30 rfl rfl
  · refine hz_iload_n (pc := 9) C dX11_alarm_9 rfl ?_
    refine hz_callSs (pc := 10) C (as := [.int v2]) (st := []) (ev_isRoomM _ v2) (hz_new0 _ _) fyX11_isRoom fsX11_56 rfl dX11_alarm_10 rfl rfl (Nat.le_of_ble_eq_true rfl) (by decide) (hz_cap0 _) ?_
    refine hz_ifb_eq (pc := 13) C (tgt := 26) dX11_alarm_13 rfl (fun c2 => ?_) (fun c2 => ?_)
    · refine hz_aload_n (pc := 26) C dX11_alarm_26 rfl ?_
      refine hz_callVs (pc := 27) C (as := []) (st := []) ev_bad (hz_new0 _ _) fyX11_bad fvX11_60 rfl dX11_alarm_27 hT146 rfl rfl hA146 rfl rfl (Nat.le_of_ble_eq_true rfl) (by decide) (hz_cap0 _) ?_
      exact hz_iret C Z rfl dX11_alarm_30 rfl rfl
    · refine hz_iload_n (pc := 16) C dX11_alarm_16 rfl ?_
      refine hz_iconst (pc := 17) C (v := nI 0) dX11_alarm_17 (by decide +kernel) ?_
      refine hz_bipush (pc := 18) C (v := nI 99) dX11_alarm_18 (by decide +kernel) ?_
      refine hz_callSs (pc := 20) C (as := [.int v3, .int (nI 0), .int (nI 99)]) (st := []) (ev_in _ v3 (nI 0) (nI 99)) (hz_new0 _ _) fyX11_in fsX11_52 rfl dX11_alarm_20 rfl rfl (Nat.le_of_ble_eq_true rfl) (by decide) (hz_cap0 _) ?_
      refine hz_ifb_ne (pc := 23) C (tgt := 31) dX11_alarm_23 rfl (fun c3 => ?_) (fun c3 => ?_)
      · exact absurd ⟨c1, c2, c3⟩ hb
      · refine hz_aload_n (pc := 26) C dX11_alarm_26 rfl ?_
        refine hz_callVs (pc := 27) C (as := []) (st := []) ev_bad (hz_new0 _ _) fyX11_bad fvX11_60 rfl dX11_alarm_27 hT146 rfl rfl hA146 rfl rfl (Nat.le_of_ble_eq_true rfl) (by decide) (hz_cap0 _) ?_
        exact hz_iret C Z rfl dX11_alarm_30 rfl rfl
set_option maxHeartbeats 4000000 in
set_option maxRecDepth 100000 in
theorem ev_typeX {I : Nat → Nat → Int32} {L : Nat → Nat → Int64} {q : Nat → Nat → Nat} {u : Nat → Nat} (V : HV 12 q I u) (U : WU u) (v1 : Int32) (hb : ¬ ((¬ v1 < nI 0 ∧ ¬ nI 127 < v1))) : hz_Ev mX10_type TT NN (I, L, PP q) [.ref 1, .int v1] 0 0 (some (.int (-2 : Int32))) TT NN (hz_up I 1 8 ((I 1 8) + (nI 1)), L, PP q) := by
  refine hz_Ev.intro (ls := [some (.ref 1), some (.int v1)]) (by decide +kernel) rfl (Nat.le_of_ble_eq_true rfl) (fun X C Z _ => ?_)
  refine hz_iload_n (pc := 0) C dX10_type_0 rfl ?_
  refine hz_iconst (pc := 1) C (v := nI 0) dX10_type_1 (by decide +kernel) ?_
  refine hz_bipush (pc := 2) C (v := nI 127) dX10_type_2 (by decide +kernel) ?_
  refine hz_callSs (pc := 4) C (as := [.int v1, .int (nI 0), .int (nI 127)]) (st := []) (ev_within _ v1 (nI 0) (nI 127)) (hz_new0 _ _) fyX10_within fsX10_59 rfl dX10_type_4 rfl rfl (Nat.le_of_ble_eq_true rfl) (by decide) (hz_cap0 _) ?_
  refine hz_ifb_ne (pc := 7) C (tgt := 15) dX10_type_7 rfl (fun c1 => ?_) (fun c1 => ?_)
  · exact absurd c1 hb
  · refine hz_aload_n (pc := 10) C dX10_type_10 rfl ?_
    refine hz_callVs (pc := 11) C (as := []) (st := []) ev_refBad (hz_new0 _ _) fyX10_refuseBad fvX10_74 rfl dX10_type_11 hT1 rfl rfl hA1 rfl rfl (Nat.le_of_ble_eq_true rfl) (by decide) (hz_cap0 _) ?_
    exact hz_iret C Z rfl dX10_type_14 rfl rfl
set_option maxHeartbeats 4000000 in
set_option maxRecDepth 100000 in
theorem ev_typeXM {I : Nat → Nat → Int32} {L : Nat → Nat → Int64} {q : Nat → Nat → Nat} {u : Nat → Nat} (V : MV I u) (U : WU u) (v1 : Int32) (hb : ¬ ((¬ v1 < nI 0 ∧ ¬ nI 127 < v1))) : hz_Ev mX11_type TT NN (I, L, PP q) [.ref 146, .int v1] 0 0 (some (.int (-2 : Int32))) TT NN (hz_up I 151 0 ((I 151 0) + (nI 1)), L, PP q) := by
  refine hz_Ev.intro (ls := [some (.ref 146), some (.int v1)]) (by decide +kernel) rfl (Nat.le_of_ble_eq_true rfl) (fun X C Z _ => ?_)
  refine hz_iload_n (pc := 0) C dX11_type_0 rfl ?_
  refine hz_iconst (pc := 1) C (v := nI 0) dX11_type_1 (by decide +kernel) ?_
  refine hz_bipush (pc := 2) C (v := nI 127) dX11_type_2 (by decide +kernel) ?_
  refine hz_callSs (pc := 4) C (as := [.int v1, .int (nI 0), .int (nI 127)]) (st := []) (ev_in _ v1 (nI 0) (nI 127)) (hz_new0 _ _) fyX11_in fsX11_52 rfl dX11_type_4 rfl rfl (Nat.le_of_ble_eq_true rfl) (by decide) (hz_cap0 _) ?_
  refine hz_ifb_ne (pc := 7) C (tgt := 15) dX11_type_7 rfl (fun c1 => ?_) (fun c1 => ?_)
  · exact absurd c1 hb
  · refine hz_aload_n (pc := 10) C dX11_type_10 rfl ?_
    refine hz_callVs (pc := 11) C (as := []) (st := []) ev_bad (hz_new0 _ _) fyX11_bad fvX11_60 rfl dX11_type_11 hT146 rfl rfl hA146 rfl rfl (Nat.le_of_ble_eq_true rfl) (by decide) (hz_cap0 _) ?_
    exact hz_iret C Z rfl dX11_type_14 rfl rfl
set_option maxHeartbeats 4000000 in
set_option maxRecDepth 100000 in
theorem ev_waitsX {I : Nat → Nat → Int32} {L : Nat → Nat → Int64} {q : Nat → Nat → Nat} {u : Nat → Nat} (V : HV 12 q I u) (U : WU u) (v1 : Int32) (hb : ¬ ((¬ v1 < nI 1 ∧ ¬ nI 99 < v1))) : hz_Ev mX10_waits TT NN (I, L, PP q) [.ref 1, .int v1] 0 0 (some (.int (-2 : Int32))) TT NN (hz_up I 1 8 ((I 1 8) + (nI 1)), L, PP q) := by
  refine hz_Ev.intro (ls := [some (.ref 1), some (.int v1)]) (by decide +kernel) rfl (Nat.le_of_ble_eq_true rfl) (fun X C Z _ => ?_)
  refine hz_iload_n (pc := 0) C dX10_waits_0 rfl ?_
  refine hz_iconst (pc := 1) C (v := nI 1) dX10_waits_1 (by decide +kernel) ?_
  refine hz_bipush (pc := 2) C (v := nI 99) dX10_waits_2 (by decide +kernel) ?_
  refine hz_callSs (pc := 4) C (as := [.int v1, .int (nI 1), .int (nI 99)]) (st := []) (ev_within _ v1 (nI 1) (nI 99)) (hz_new0 _ _) fyX10_within fsX10_59 rfl dX10_waits_4 rfl rfl (Nat.le_of_ble_eq_true rfl) (by decide) (hz_cap0 _) ?_
  refine hz_ifb_ne (pc := 7) C (tgt := 15) dX10_waits_7 rfl (fun c1 => ?_) (fun c1 => ?_)
  · exact absurd c1 hb
  · refine hz_aload_n (pc := 10) C dX10_waits_10 rfl ?_
    refine hz_callVs (pc := 11) C (as := []) (st := []) ev_refBad (hz_new0 _ _) fyX10_refuseBad fvX10_74 rfl dX10_waits_11 hT1 rfl rfl hA1 rfl rfl (Nat.le_of_ble_eq_true rfl) (by decide) (hz_cap0 _) ?_
    exact hz_iret C Z rfl dX10_waits_14 rfl rfl
set_option maxHeartbeats 4000000 in
set_option maxRecDepth 100000 in
theorem ev_waitsXM {I : Nat → Nat → Int32} {L : Nat → Nat → Int64} {q : Nat → Nat → Nat} {u : Nat → Nat} (V : MV I u) (U : WU u) (v1 : Int32) (hb : ¬ ((¬ v1 < nI 1 ∧ ¬ nI 99 < v1))) : hz_Ev mX11_waits TT NN (I, L, PP q) [.ref 146, .int v1] 0 0 (some (.int (-2 : Int32))) TT NN (hz_up I 151 0 ((I 151 0) + (nI 1)), L, PP q) := by
  refine hz_Ev.intro (ls := [some (.ref 146), some (.int v1)]) (by decide +kernel) rfl (Nat.le_of_ble_eq_true rfl) (fun X C Z _ => ?_)
  refine hz_iload_n (pc := 0) C dX11_waits_0 rfl ?_
  refine hz_iconst (pc := 1) C (v := nI 1) dX11_waits_1 (by decide +kernel) ?_
  refine hz_bipush (pc := 2) C (v := nI 99) dX11_waits_2 (by decide +kernel) ?_
  refine hz_callSs (pc := 4) C (as := [.int v1, .int (nI 1), .int (nI 99)]) (st := []) (ev_in _ v1 (nI 1) (nI 99)) (hz_new0 _ _) fyX11_in fsX11_52 rfl dX11_waits_4 rfl rfl (Nat.le_of_ble_eq_true rfl) (by decide) (hz_cap0 _) ?_
  refine hz_ifb_ne (pc := 7) C (tgt := 15) dX11_waits_7 rfl (fun c1 => ?_) (fun c1 => ?_)
  · exact absurd c1 hb
  · refine hz_aload_n (pc := 10) C dX11_waits_10 rfl ?_
    refine hz_callVs (pc := 11) C (as := []) (st := []) ev_bad (hz_new0 _ _) fyX11_bad fvX11_60 rfl dX11_waits_11 hT146 rfl rfl hA146 rfl rfl (Nat.le_of_ble_eq_true rfl) (by decide) (hz_cap0 _) ?_
    exact hz_iret C Z rfl dX11_waits_14 rfl rfl
set_option maxHeartbeats 4000000 in
set_option maxRecDepth 100000 in
theorem ev_walkX {I : Nat → Nat → Int32} {L : Nat → Nat → Int64} {q : Nat → Nat → Nat} {u : Nat → Nat} (V : HV 12 q I u) (U : WU u) (v1 : Int32) (hb : ¬ ((¬ v1 < nI 0 ∧ ¬ nI 7 < v1))) : hz_Ev mX10_walk TT NN (I, L, PP q) [.ref 1, .int v1] 0 0 (some (.int (-2 : Int32))) TT NN (hz_up I 1 8 ((I 1 8) + (nI 1)), L, PP q) := by
  refine hz_Ev.intro (ls := [some (.ref 1), some (.int v1), none]) (by decide +kernel) rfl (Nat.le_of_ble_eq_true rfl) (fun X C Z _ => ?_)
  refine hz_iload_n (pc := 0) C dX10_walk_0 rfl ?_
  refine hz_callSs (pc := 1) C (as := [.int v1]) (st := []) (ev_isRoom _ v1) (hz_new0 _ _) fyX10_isRoom fsX10_55 rfl dX10_walk_1 rfl rfl (Nat.le_of_ble_eq_true rfl) (by decide) (hz_cap0 _) ?_
  refine hz_ifb_ne (pc := 4) C (tgt := 12) dX10_walk_4 rfl (fun c1 => ?_) (fun c1 => ?_)
  · exact absurd c1 hb
  · refine hz_aload_n (pc := 7) C dX10_walk_7 rfl ?_
    refine hz_callVs (pc := 8) C (as := []) (st := []) ev_refBad (hz_new0 _ _) fyX10_refuseBad fvX10_74 rfl dX10_walk_8 hT1 rfl rfl hA1 rfl rfl (Nat.le_of_ble_eq_true rfl) (by decide) (hz_cap0 _) ?_
    exact hz_iret C Z rfl dX10_walk_11 rfl rfl
set_option maxHeartbeats 4000000 in
set_option maxRecDepth 100000 in
theorem ev_walkXM {I : Nat → Nat → Int32} {L : Nat → Nat → Int64} {q : Nat → Nat → Nat} {u : Nat → Nat} (V : MV I u) (U : WU u) (v1 : Int32) (hb : ¬ ((¬ v1 < nI 0 ∧ ¬ nI 7 < v1))) : hz_Ev mX11_walk TT NN (I, L, PP q) [.ref 146, .int v1] 0 0 (some (.int (-2 : Int32))) TT NN (hz_up I 151 0 ((I 151 0) + (nI 1)), L, PP q) := by
  refine hz_Ev.intro (ls := [some (.ref 146), some (.int v1), none]) (by decide +kernel) rfl (Nat.le_of_ble_eq_true rfl) (fun X C Z _ => ?_)
  refine hz_iload_n (pc := 0) C dX11_walk_0 rfl ?_
  refine hz_callSs (pc := 1) C (as := [.int v1]) (st := []) (ev_isRoomM _ v1) (hz_new0 _ _) fyX11_isRoom fsX11_56 rfl dX11_walk_1 rfl rfl (Nat.le_of_ble_eq_true rfl) (by decide) (hz_cap0 _) ?_
  refine hz_ifb_ne (pc := 4) C (tgt := 12) dX11_walk_4 rfl (fun c1 => ?_) (fun c1 => ?_)
  · exact absurd c1 hb
  · refine hz_aload_n (pc := 7) C dX11_walk_7 rfl ?_
    refine hz_callVs (pc := 8) C (as := []) (st := []) ev_bad (hz_new0 _ _) fyX11_bad fvX11_60 rfl dX11_walk_8 hT146 rfl rfl hA146 rfl rfl (Nat.le_of_ble_eq_true rfl) (by decide) (hz_cap0 _) ?_
    exact hz_iret C Z rfl dX11_walk_11 rfl rfl
set_option maxHeartbeats 4000000 in
set_option maxRecDepth 100000 in
theorem ev_takeX {I : Nat → Nat → Int32} {L : Nat → Nat → Int64} {q : Nat → Nat → Nat} {u : Nat → Nat} (V : HV 12 q I u) (U : WU u) (v1 v2 : Int32) (hb : ¬ ((¬ v1 < nI 0 ∧ ¬ nI (u 64) - nI 1 < v1) ∧ (¬ v2 < nI 0 ∧ ¬ nI 1 < v2))) : hz_Ev mX10_take TT NN (I, L, PP q) [.ref 1, .int v1, .int v2] 0 0 (some (.int (-2 : Int32))) TT NN (hz_up I 1 8 ((I 1 8) + (nI 1)), L, PP q) := by
  refine hz_Ev.intro (ls := [some (.ref 1), some (.int v1), some (.int v2)]) (by decide +kernel) rfl (Nat.le_of_ble_eq_true rfl) (fun X C Z _ => ?_)
  refine hz_aload_n (pc := 0) C dX10_take_0 rfl ?_
  refine hz_iload_n (pc := 1) C dX10_take_1 rfl ?_
  refine hz_callVs (pc := 2) C (as := [.int v1]) (st := []) (ev_isAlarm V U v1) (hz_new0 _ _) fyX10_isAlarm fvX10_123 rfl dX10_take_2 hT1 rfl rfl hA1 rfl rfl (Nat.le_of_ble_eq_true rfl) (by decide) (hz_cap0 _) ?_
  refine hz_ifb_eq (pc := 5) C (tgt := 17) dX10_take_5 rfl (fun c1 => ?_) (fun c1 => ?_)
  · refine hz_aload_n (pc := 17) C dX10_take_17 rfl ?_
    refine hz_callVs (pc := 18) C (as := []) (st := []) ev_refBad (hz_new0 _ _) fyX10_refuseBad fvX10_74 rfl dX10_take_18 hT1 rfl rfl hA1 rfl rfl (Nat.le_of_ble_eq_true rfl) (by decide) (hz_cap0 _) ?_
    exact hz_iret C Z rfl dX10_take_21 rfl rfl
  · refine hz_iload_n (pc := 8) C dX10_take_8 rfl ?_
    refine hz_iconst (pc := 9) C (v := nI 0) dX10_take_9 (by decide +kernel) ?_
    refine hz_iconst (pc := 10) C (v := nI 1) dX10_take_10 (by decide +kernel) ?_
    refine hz_callSs (pc := 11) C (as := [.int v2, .int (nI 0), .int (nI 1)]) (st := []) (ev_within _ v2 (nI 0) (nI 1)) (hz_new0 _ _) fyX10_within fsX10_59 rfl dX10_take_11 rfl rfl (Nat.le_of_ble_eq_true rfl) (by decide) (hz_cap0 _) ?_
    refine hz_ifb_ne (pc := 14) C (tgt := 22) dX10_take_14 rfl (fun c2 => ?_) (fun c2 => ?_)
    · exact absurd ⟨c1, c2⟩ hb
    · refine hz_aload_n (pc := 17) C dX10_take_17 rfl ?_
      refine hz_callVs (pc := 18) C (as := []) (st := []) ev_refBad (hz_new0 _ _) fyX10_refuseBad fvX10_74 rfl dX10_take_18 hT1 rfl rfl hA1 rfl rfl (Nat.le_of_ble_eq_true rfl) (by decide) (hz_cap0 _) ?_
      exact hz_iret C Z rfl dX10_take_21 rfl rfl
set_option maxHeartbeats 4000000 in
set_option maxRecDepth 100000 in
theorem ev_takeXM {I : Nat → Nat → Int32} {L : Nat → Nat → Int64} {q : Nat → Nat → Nat} {u : Nat → Nat} (V : MV I u) (U : WU u) (v1 v2 : Int32) (hb : ¬ ((¬ v1 < nI 0 ∧ ¬ nI (u 64) - nI 1 < v1) ∧ (¬ v2 < nI 0 ∧ ¬ nI 1 < v2))) : hz_Ev mX11_take TT NN (I, L, PP q) [.ref 146, .int v1, .int v2] 0 0 (some (.int (-2 : Int32))) TT NN (hz_up I 151 0 ((I 151 0) + (nI 1)), L, PP q) := by
  refine hz_Ev.intro (ls := [some (.ref 146), some (.int v1), some (.int v2)]) (by decide +kernel) rfl (Nat.le_of_ble_eq_true rfl) (fun X C Z _ => ?_)
  refine hz_aload_n (pc := 0) C dX11_take_0 rfl ?_
  refine hz_iload_n (pc := 1) C dX11_take_1 rfl ?_
  refine hz_callVs (pc := 2) C (as := [.int v1]) (st := []) (ev_isAlarmM V U v1) (hz_new0 _ _) fyX11_isAlarm fvX11_160 rfl dX11_take_2 hT146 rfl rfl hA146 rfl rfl (Nat.le_of_ble_eq_true rfl) (by decide) (hz_cap0 _) ?_
  refine hz_ifb_eq (pc := 5) C (tgt := 17) dX11_take_5 rfl (fun c1 => ?_) (fun c1 => ?_)
  · refine hz_aload_n (pc := 17) C dX11_take_17 rfl ?_
    refine hz_callVs (pc := 18) C (as := []) (st := []) ev_bad (hz_new0 _ _) fyX11_bad fvX11_60 rfl dX11_take_18 hT146 rfl rfl hA146 rfl rfl (Nat.le_of_ble_eq_true rfl) (by decide) (hz_cap0 _) ?_
    exact hz_iret C Z rfl dX11_take_21 rfl rfl
  · refine hz_iload_n (pc := 8) C dX11_take_8 rfl ?_
    refine hz_iconst (pc := 9) C (v := nI 0) dX11_take_9 (by decide +kernel) ?_
    refine hz_iconst (pc := 10) C (v := nI 1) dX11_take_10 (by decide +kernel) ?_
    refine hz_callSs (pc := 11) C (as := [.int v2, .int (nI 0), .int (nI 1)]) (st := []) (ev_in _ v2 (nI 0) (nI 1)) (hz_new0 _ _) fyX11_in fsX11_52 rfl dX11_take_11 rfl rfl (Nat.le_of_ble_eq_true rfl) (by decide) (hz_cap0 _) ?_
    refine hz_ifb_ne (pc := 14) C (tgt := 22) dX11_take_14 rfl (fun c2 => ?_) (fun c2 => ?_)
    · exact absurd ⟨c1, c2⟩ hb
    · refine hz_aload_n (pc := 17) C dX11_take_17 rfl ?_
      refine hz_callVs (pc := 18) C (as := []) (st := []) ev_bad (hz_new0 _ _) fyX11_bad fvX11_60 rfl dX11_take_18 hT146 rfl rfl hA146 rfl rfl (Nat.le_of_ble_eq_true rfl) (by decide) (hz_cap0 _) ?_
      exact hz_iret C Z rfl dX11_take_21 rfl rfl
set_option maxHeartbeats 4000000 in
set_option maxRecDepth 100000 in
theorem ev_batteryX {I : Nat → Nat → Int32} {L : Nat → Nat → Int64} {q : Nat → Nat → Nat} {u : Nat → Nat} (V : HV 12 q I u) (U : WU u) (v1 v2 : Int32) (hb : ¬ ((¬ v1 < nI 0 ∧ ¬ nI (u 64) - nI 1 < v1) ∧ (¬ v2 < nI 0 ∧ ¬ nI 99 < v2))) : hz_Ev mX10_battery TT NN (I, L, PP q) [.ref 1, .int v1, .int v2] 0 0 (some (.int (-2 : Int32))) TT NN (hz_up I 1 8 ((I 1 8) + (nI 1)), L, PP q) := by
  refine hz_Ev.intro (ls := [some (.ref 1), some (.int v1), some (.int v2), none]) (by decide +kernel) rfl (Nat.le_of_ble_eq_true rfl) (fun X C Z _ => ?_)
  refine hz_aload_n (pc := 0) C dX10_battery_0 rfl ?_
  refine hz_iload_n (pc := 1) C dX10_battery_1 rfl ?_
  refine hz_callVs (pc := 2) C (as := [.int v1]) (st := []) (ev_isAlarm V U v1) (hz_new0 _ _) fyX10_isAlarm fvX10_123 rfl dX10_battery_2 hT1 rfl rfl hA1 rfl rfl (Nat.le_of_ble_eq_true rfl) (by decide) (hz_cap0 _) ?_
  refine hz_ifb_eq (pc := 5) C (tgt := 18) dX10_battery_5 rfl (fun c1 => ?_) (fun c1 => ?_)
  · refine hz_aload_n (pc := 18) C dX10_battery_18 rfl ?_
    refine hz_callVs (pc := 19) C (as := []) (st := []) ev_refBad (hz_new0 _ _) fyX10_refuseBad fvX10_74 rfl dX10_battery_19 hT1 rfl rfl hA1 rfl rfl (Nat.le_of_ble_eq_true rfl) (by decide) (hz_cap0 _) ?_
    exact hz_iret C Z rfl dX10_battery_22 rfl rfl
  · refine hz_iload_n (pc := 8) C dX10_battery_8 rfl ?_
    refine hz_iconst (pc := 9) C (v := nI 0) dX10_battery_9 (by decide +kernel) ?_
    refine hz_bipush (pc := 10) C (v := nI 99) dX10_battery_10 (by decide +kernel) ?_
    refine hz_callSs (pc := 12) C (as := [.int v2, .int (nI 0), .int (nI 99)]) (st := []) (ev_within _ v2 (nI 0) (nI 99)) (hz_new0 _ _) fyX10_within fsX10_59 rfl dX10_battery_12 rfl rfl (Nat.le_of_ble_eq_true rfl) (by decide) (hz_cap0 _) ?_
    refine hz_ifb_ne (pc := 15) C (tgt := 23) dX10_battery_15 rfl (fun c2 => ?_) (fun c2 => ?_)
    · exact absurd ⟨c1, c2⟩ hb
    · refine hz_aload_n (pc := 18) C dX10_battery_18 rfl ?_
      refine hz_callVs (pc := 19) C (as := []) (st := []) ev_refBad (hz_new0 _ _) fyX10_refuseBad fvX10_74 rfl dX10_battery_19 hT1 rfl rfl hA1 rfl rfl (Nat.le_of_ble_eq_true rfl) (by decide) (hz_cap0 _) ?_
      exact hz_iret C Z rfl dX10_battery_22 rfl rfl
set_option maxHeartbeats 4000000 in
set_option maxRecDepth 100000 in
theorem ev_batteryXM {I : Nat → Nat → Int32} {L : Nat → Nat → Int64} {q : Nat → Nat → Nat} {u : Nat → Nat} (V : MV I u) (U : WU u) (v1 v2 : Int32) (hb : ¬ ((¬ v1 < nI 0 ∧ ¬ nI (u 64) - nI 1 < v1) ∧ (¬ v2 < nI 0 ∧ ¬ nI 99 < v2))) : hz_Ev mX11_battery TT NN (I, L, PP q) [.ref 146, .int v1, .int v2] 0 0 (some (.int (-2 : Int32))) TT NN (hz_up I 151 0 ((I 151 0) + (nI 1)), L, PP q) := by
  refine hz_Ev.intro (ls := [some (.ref 146), some (.int v1), some (.int v2), none]) (by decide +kernel) rfl (Nat.le_of_ble_eq_true rfl) (fun X C Z _ => ?_)
  refine hz_aload_n (pc := 0) C dX11_battery_0 rfl ?_
  refine hz_iload_n (pc := 1) C dX11_battery_1 rfl ?_
  refine hz_callVs (pc := 2) C (as := [.int v1]) (st := []) (ev_isAlarmM V U v1) (hz_new0 _ _) fyX11_isAlarm fvX11_160 rfl dX11_battery_2 hT146 rfl rfl hA146 rfl rfl (Nat.le_of_ble_eq_true rfl) (by decide) (hz_cap0 _) ?_
  refine hz_ifb_eq (pc := 5) C (tgt := 18) dX11_battery_5 rfl (fun c1 => ?_) (fun c1 => ?_)
  · refine hz_aload_n (pc := 18) C dX11_battery_18 rfl ?_
    refine hz_callVs (pc := 19) C (as := []) (st := []) ev_bad (hz_new0 _ _) fyX11_bad fvX11_60 rfl dX11_battery_19 hT146 rfl rfl hA146 rfl rfl (Nat.le_of_ble_eq_true rfl) (by decide) (hz_cap0 _) ?_
    exact hz_iret C Z rfl dX11_battery_22 rfl rfl
  · refine hz_iload_n (pc := 8) C dX11_battery_8 rfl ?_
    refine hz_iconst (pc := 9) C (v := nI 0) dX11_battery_9 (by decide +kernel) ?_
    refine hz_bipush (pc := 10) C (v := nI 99) dX11_battery_10 (by decide +kernel) ?_
    refine hz_callSs (pc := 12) C (as := [.int v2, .int (nI 0), .int (nI 99)]) (st := []) (ev_in _ v2 (nI 0) (nI 99)) (hz_new0 _ _) fyX11_in fsX11_52 rfl dX11_battery_12 rfl rfl (Nat.le_of_ble_eq_true rfl) (by decide) (hz_cap0 _) ?_
    refine hz_ifb_ne (pc := 15) C (tgt := 23) dX11_battery_15 rfl (fun c2 => ?_) (fun c2 => ?_)
    · exact absurd ⟨c1, c2⟩ hb
    · refine hz_aload_n (pc := 18) C dX11_battery_18 rfl ?_
      refine hz_callVs (pc := 19) C (as := []) (st := []) ev_bad (hz_new0 _ _) fyX11_bad fvX11_60 rfl dX11_battery_19 hT146 rfl rfl hA146 rfl rfl (Nat.le_of_ble_eq_true rfl) (by decide) (hz_cap0 _) ?_
      exact hz_iret C Z rfl dX11_battery_22 rfl rfl
set_option maxHeartbeats 4000000 in
set_option maxRecDepth 100000 in
theorem ev_coldX {I : Nat → Nat → Int32} {L : Nat → Nat → Int64} {q : Nat → Nat → Nat} {u : Nat → Nat} (V : HV 12 q I u) (U : WU u) (v1 : Int32) (hb : ¬ ((¬ v1 < nI 0 ∧ ¬ nI 9 < v1))) : hz_Ev mX10_cold TT NN (I, L, PP q) [.ref 1, .int v1] 0 0 (some (.int (-2 : Int32))) TT NN (hz_up I 1 8 ((I 1 8) + (nI 1)), L, PP q) := by
  refine hz_Ev.intro (ls := [some (.ref 1), some (.int v1), none]) (by decide +kernel) rfl (Nat.le_of_ble_eq_true rfl) (fun X C Z _ => ?_)
  refine hz_iload_n (pc := 0) C dX10_cold_0 rfl ?_
  refine hz_iconst (pc := 1) C (v := nI 0) dX10_cold_1 (by decide +kernel) ?_
  refine hz_bipush (pc := 2) C (v := nI 9) dX10_cold_2 (by decide +kernel) ?_
  refine hz_callSs (pc := 4) C (as := [.int v1, .int (nI 0), .int (nI 9)]) (st := []) (ev_within _ v1 (nI 0) (nI 9)) (hz_new0 _ _) fyX10_within fsX10_59 rfl dX10_cold_4 rfl rfl (Nat.le_of_ble_eq_true rfl) (by decide) (hz_cap0 _) ?_
  refine hz_ifb_ne (pc := 7) C (tgt := 15) dX10_cold_7 rfl (fun c1 => ?_) (fun c1 => ?_)
  · exact absurd c1 hb
  · refine hz_aload_n (pc := 10) C dX10_cold_10 rfl ?_
    refine hz_callVs (pc := 11) C (as := []) (st := []) ev_refBad (hz_new0 _ _) fyX10_refuseBad fvX10_74 rfl dX10_cold_11 hT1 rfl rfl hA1 rfl rfl (Nat.le_of_ble_eq_true rfl) (by decide) (hz_cap0 _) ?_
    exact hz_iret C Z rfl dX10_cold_14 rfl rfl
set_option maxHeartbeats 4000000 in
set_option maxRecDepth 100000 in
theorem ev_coldXM {I : Nat → Nat → Int32} {L : Nat → Nat → Int64} {q : Nat → Nat → Nat} {u : Nat → Nat} (V : MV I u) (U : WU u) (v1 : Int32) (hb : ¬ ((¬ v1 < nI 0 ∧ ¬ nI 9 < v1))) : hz_Ev mX11_cold TT NN (I, L, PP q) [.ref 146, .int v1] 0 0 (some (.int (-2 : Int32))) TT NN (hz_up I 151 0 ((I 151 0) + (nI 1)), L, PP q) := by
  refine hz_Ev.intro (ls := [some (.ref 146), some (.int v1), none]) (by decide +kernel) rfl (Nat.le_of_ble_eq_true rfl) (fun X C Z _ => ?_)
  refine hz_iload_n (pc := 0) C dX11_cold_0 rfl ?_
  refine hz_iconst (pc := 1) C (v := nI 0) dX11_cold_1 (by decide +kernel) ?_
  refine hz_bipush (pc := 2) C (v := nI 9) dX11_cold_2 (by decide +kernel) ?_
  refine hz_callSs (pc := 4) C (as := [.int v1, .int (nI 0), .int (nI 9)]) (st := []) (ev_in _ v1 (nI 0) (nI 9)) (hz_new0 _ _) fyX11_in fsX11_52 rfl dX11_cold_4 rfl rfl (Nat.le_of_ble_eq_true rfl) (by decide) (hz_cap0 _) ?_
  refine hz_ifb_ne (pc := 7) C (tgt := 15) dX11_cold_7 rfl (fun c1 => ?_) (fun c1 => ?_)
  · exact absurd c1 hb
  · refine hz_aload_n (pc := 10) C dX11_cold_10 rfl ?_
    refine hz_callVs (pc := 11) C (as := []) (st := []) ev_bad (hz_new0 _ _) fyX11_bad fvX11_60 rfl dX11_cold_11 hT146 rfl rfl hA146 rfl rfl (Nat.le_of_ble_eq_true rfl) (by decide) (hz_cap0 _) ?_
    exact hz_iret C Z rfl dX11_cold_14 rfl rfl
set_option maxHeartbeats 4000000 in
set_option maxRecDepth 100000 in
theorem ev_noteX {I : Nat → Nat → Int32} {L : Nat → Nat → Int64} {q : Nat → Nat → Nat} {u : Nat → Nat} (V : HV 12 q I u) (U : WU u) (v1 v2 : Int32) (hb : ¬ ((¬ v1 < nI 0 ∧ ¬ nI 7 < v1) ∧ (¬ v2 < (-1 : Int32) ∧ ¬ nI 7 < v2))) : hz_Ev mX10_note TT NN (I, L, PP q) [.ref 1, .int v1, .int v2] 0 0 (some (.int (-2 : Int32))) TT NN (hz_up I 1 8 ((I 1 8) + (nI 1)), L, PP q) := by
  refine hz_Ev.intro (ls := [some (.ref 1), some (.int v1), some (.int v2)]) (by decide +kernel) rfl (Nat.le_of_ble_eq_true rfl) (fun X C Z _ => ?_)
  refine hz_iload_n (pc := 0) C dX10_note_0 rfl ?_
  refine hz_callSs (pc := 1) C (as := [.int v1]) (st := []) (ev_isRoom _ v1) (hz_new0 _ _) fyX10_isRoom fsX10_55 rfl dX10_note_1 rfl rfl (Nat.le_of_ble_eq_true rfl) (by decide) (hz_cap0 _) ?_
  refine hz_ifb_eq (pc := 4) C (tgt := 17) dX10_note_4 rfl (fun c1 => ?_) (fun c1 => ?_)
  · refine hz_aload_n (pc := 17) C dX10_note_17 rfl ?_
    refine hz_callVs (pc := 18) C (as := []) (st := []) ev_refBad (hz_new0 _ _) fyX10_refuseBad fvX10_74 rfl dX10_note_18 hT1 rfl rfl hA1 rfl rfl (Nat.le_of_ble_eq_true rfl) (by decide) (hz_cap0 _) ?_
    exact hz_iret C Z rfl dX10_note_21 rfl rfl
  · refine hz_iload_n (pc := 7) C dX10_note_7 rfl ?_
    refine hz_iconst (pc := 8) C (v := (-1 : Int32)) dX10_note_8 (by decide +kernel) ?_
    refine hz_bipush (pc := 9) C (v := nI 7) dX10_note_9 (by decide +kernel) ?_
    refine hz_callSs (pc := 11) C (as := [.int v2, .int (-1 : Int32), .int (nI 7)]) (st := []) (ev_within _ v2 (-1 : Int32) (nI 7)) (hz_new0 _ _) fyX10_within fsX10_59 rfl dX10_note_11 rfl rfl (Nat.le_of_ble_eq_true rfl) (by decide) (hz_cap0 _) ?_
    refine hz_ifb_ne (pc := 14) C (tgt := 22) dX10_note_14 rfl (fun c2 => ?_) (fun c2 => ?_)
    · exact absurd ⟨c1, c2⟩ hb
    · refine hz_aload_n (pc := 17) C dX10_note_17 rfl ?_
      refine hz_callVs (pc := 18) C (as := []) (st := []) ev_refBad (hz_new0 _ _) fyX10_refuseBad fvX10_74 rfl dX10_note_18 hT1 rfl rfl hA1 rfl rfl (Nat.le_of_ble_eq_true rfl) (by decide) (hz_cap0 _) ?_
      exact hz_iret C Z rfl dX10_note_21 rfl rfl
set_option maxHeartbeats 4000000 in
set_option maxRecDepth 100000 in
theorem ev_noteXM {I : Nat → Nat → Int32} {L : Nat → Nat → Int64} {q : Nat → Nat → Nat} {u : Nat → Nat} (V : MV I u) (U : WU u) (v1 v2 : Int32) (hb : ¬ ((¬ v1 < nI 0 ∧ ¬ nI 7 < v1) ∧ (¬ v2 < (-1 : Int32) ∧ ¬ nI 7 < v2))) : hz_Ev mX11_note TT NN (I, L, PP q) [.ref 146, .int v1, .int v2] 0 0 (some (.int (-2 : Int32))) TT NN (hz_up I 151 0 ((I 151 0) + (nI 1)), L, PP q) := by
  refine hz_Ev.intro (ls := [some (.ref 146), some (.int v1), some (.int v2)]) (by decide +kernel) rfl (Nat.le_of_ble_eq_true rfl) (fun X C Z _ => ?_)
  refine hz_iload_n (pc := 0) C dX11_note_0 rfl ?_
  refine hz_callSs (pc := 1) C (as := [.int v1]) (st := []) (ev_isRoomM _ v1) (hz_new0 _ _) fyX11_isRoom fsX11_56 rfl dX11_note_1 rfl rfl (Nat.le_of_ble_eq_true rfl) (by decide) (hz_cap0 _) ?_
  refine hz_ifb_eq (pc := 4) C (tgt := 17) dX11_note_4 rfl (fun c1 => ?_) (fun c1 => ?_)
  · refine hz_aload_n (pc := 17) C dX11_note_17 rfl ?_
    refine hz_callVs (pc := 18) C (as := []) (st := []) ev_bad (hz_new0 _ _) fyX11_bad fvX11_60 rfl dX11_note_18 hT146 rfl rfl hA146 rfl rfl (Nat.le_of_ble_eq_true rfl) (by decide) (hz_cap0 _) ?_
    exact hz_iret C Z rfl dX11_note_21 rfl rfl
  · refine hz_iload_n (pc := 7) C dX11_note_7 rfl ?_
    refine hz_iconst (pc := 8) C (v := (-1 : Int32)) dX11_note_8 (by decide +kernel) ?_
    refine hz_bipush (pc := 9) C (v := nI 7) dX11_note_9 (by decide +kernel) ?_
    refine hz_callSs (pc := 11) C (as := [.int v2, .int (-1 : Int32), .int (nI 7)]) (st := []) (ev_in _ v2 (-1 : Int32) (nI 7)) (hz_new0 _ _) fyX11_in fsX11_52 rfl dX11_note_11 rfl rfl (Nat.le_of_ble_eq_true rfl) (by decide) (hz_cap0 _) ?_
    refine hz_ifb_ne (pc := 14) C (tgt := 22) dX11_note_14 rfl (fun c2 => ?_) (fun c2 => ?_)
    · exact absurd ⟨c1, c2⟩ hb
    · refine hz_aload_n (pc := 17) C dX11_note_17 rfl ?_
      refine hz_callVs (pc := 18) C (as := []) (st := []) ev_bad (hz_new0 _ _) fyX11_bad fvX11_60 rfl dX11_note_18 hT146 rfl rfl hA146 rfl rfl (Nat.le_of_ble_eq_true rfl) (by decide) (hz_cap0 _) ?_
      exact hz_iret C Z rfl dX11_note_21 rfl rfl
set_option maxHeartbeats 4000000 in
set_option maxRecDepth 100000 in
theorem ev_imageX {I : Nat → Nat → Int32} {L : Nat → Nat → Int64} {q : Nat → Nat → Nat} {u : Nat → Nat} (V : HV 12 q I u) (U : WU u) (v1 : Int32) (hb : ¬ ((¬ v1 < nI 0 ∧ ¬ nI 1 < v1))) : hz_Ev mX10_image TT NN (I, L, PP q) [.ref 1, .int v1] 0 0 (some (.int (-2 : Int32))) TT NN (hz_up I 1 8 ((I 1 8) + (nI 1)), L, PP q) := by
  refine hz_Ev.intro (ls := [some (.ref 1), some (.int v1)]) (by decide +kernel) rfl (Nat.le_of_ble_eq_true rfl) (fun X C Z _ => ?_)
  refine hz_iload_n (pc := 0) C dX10_image_0 rfl ?_
  refine hz_iconst (pc := 1) C (v := nI 0) dX10_image_1 (by decide +kernel) ?_
  refine hz_iconst (pc := 2) C (v := nI 1) dX10_image_2 (by decide +kernel) ?_
  refine hz_callSs (pc := 3) C (as := [.int v1, .int (nI 0), .int (nI 1)]) (st := []) (ev_within _ v1 (nI 0) (nI 1)) (hz_new0 _ _) fyX10_within fsX10_59 rfl dX10_image_3 rfl rfl (Nat.le_of_ble_eq_true rfl) (by decide) (hz_cap0 _) ?_
  refine hz_ifb_ne (pc := 6) C (tgt := 14) dX10_image_6 rfl (fun c1 => ?_) (fun c1 => ?_)
  · exact absurd c1 hb
  · refine hz_aload_n (pc := 9) C dX10_image_9 rfl ?_
    refine hz_callVs (pc := 10) C (as := []) (st := []) ev_refBad (hz_new0 _ _) fyX10_refuseBad fvX10_74 rfl dX10_image_10 hT1 rfl rfl hA1 rfl rfl (Nat.le_of_ble_eq_true rfl) (by decide) (hz_cap0 _) ?_
    exact hz_iret C Z rfl dX10_image_13 rfl rfl
set_option maxHeartbeats 4000000 in
set_option maxRecDepth 100000 in
theorem ev_imageXM {I : Nat → Nat → Int32} {L : Nat → Nat → Int64} {q : Nat → Nat → Nat} {u : Nat → Nat} (V : MV I u) (U : WU u) (v1 : Int32) (hb : ¬ ((¬ v1 < nI 0 ∧ ¬ nI 1 < v1))) : hz_Ev mX11_image TT NN (I, L, PP q) [.ref 146, .int v1] 0 0 (some (.int (-2 : Int32))) TT NN (hz_up I 151 0 ((I 151 0) + (nI 1)), L, PP q) := by
  refine hz_Ev.intro (ls := [some (.ref 146), some (.int v1)]) (by decide +kernel) rfl (Nat.le_of_ble_eq_true rfl) (fun X C Z _ => ?_)
  refine hz_iload_n (pc := 0) C dX11_image_0 rfl ?_
  refine hz_iconst (pc := 1) C (v := nI 0) dX11_image_1 (by decide +kernel) ?_
  refine hz_iconst (pc := 2) C (v := nI 1) dX11_image_2 (by decide +kernel) ?_
  refine hz_callSs (pc := 3) C (as := [.int v1, .int (nI 0), .int (nI 1)]) (st := []) (ev_in _ v1 (nI 0) (nI 1)) (hz_new0 _ _) fyX11_in fsX11_52 rfl dX11_image_3 rfl rfl (Nat.le_of_ble_eq_true rfl) (by decide) (hz_cap0 _) ?_
  refine hz_ifb_ne (pc := 6) C (tgt := 14) dX11_image_6 rfl (fun c1 => ?_) (fun c1 => ?_)
  · exact absurd c1 hb
  · refine hz_aload_n (pc := 9) C dX11_image_9 rfl ?_
    refine hz_callVs (pc := 10) C (as := []) (st := []) ev_bad (hz_new0 _ _) fyX11_bad fvX11_60 rfl dX11_image_10 hT146 rfl rfl hA146 rfl rfl (Nat.le_of_ble_eq_true rfl) (by decide) (hz_cap0 _) ?_
    exact hz_iret C Z rfl dX11_image_13 rfl rfl
set_option maxHeartbeats 4000000 in
set_option maxRecDepth 100000 in
theorem ev_fromX {I : Nat → Nat → Int32} {L : Nat → Nat → Int64} {q : Nat → Nat → Nat} {u : Nat → Nat} (V : HV 12 q I u) (U : WU u) (v1 : Int32) (hb : ¬ ((¬ v1 < nI 0 ∧ ¬ nI 1 < v1))) : hz_Ev mX10_from TT NN (I, L, PP q) [.ref 1, .int v1] 0 0 (some (.int (-2 : Int32))) TT NN (hz_up I 1 8 ((I 1 8) + (nI 1)), L, PP q) := by
  refine hz_Ev.intro (ls := [some (.ref 1), some (.int v1)]) (by decide +kernel) rfl (Nat.le_of_ble_eq_true rfl) (fun X C Z _ => ?_)
  refine hz_iload_n (pc := 0) C dX10_from_0 rfl ?_
  refine hz_iconst (pc := 1) C (v := nI 0) dX10_from_1 (by decide +kernel) ?_
  refine hz_iconst (pc := 2) C (v := nI 1) dX10_from_2 (by decide +kernel) ?_
  refine hz_callSs (pc := 3) C (as := [.int v1, .int (nI 0), .int (nI 1)]) (st := []) (ev_within _ v1 (nI 0) (nI 1)) (hz_new0 _ _) fyX10_within fsX10_59 rfl dX10_from_3 rfl rfl (Nat.le_of_ble_eq_true rfl) (by decide) (hz_cap0 _) ?_
  refine hz_ifb_ne (pc := 6) C (tgt := 14) dX10_from_6 rfl (fun c1 => ?_) (fun c1 => ?_)
  · exact absurd c1 hb
  · refine hz_aload_n (pc := 9) C dX10_from_9 rfl ?_
    refine hz_callVs (pc := 10) C (as := []) (st := []) ev_refBad (hz_new0 _ _) fyX10_refuseBad fvX10_74 rfl dX10_from_10 hT1 rfl rfl hA1 rfl rfl (Nat.le_of_ble_eq_true rfl) (by decide) (hz_cap0 _) ?_
    exact hz_iret C Z rfl dX10_from_13 rfl rfl
set_option maxHeartbeats 4000000 in
set_option maxRecDepth 100000 in
theorem ev_fromXM {I : Nat → Nat → Int32} {L : Nat → Nat → Int64} {q : Nat → Nat → Nat} {u : Nat → Nat} (V : MV I u) (U : WU u) (v1 : Int32) (hb : ¬ ((¬ v1 < nI 0 ∧ ¬ nI 1 < v1))) : hz_Ev mX11_from TT NN (I, L, PP q) [.ref 146, .int v1] 0 0 (some (.int (-2 : Int32))) TT NN (hz_up I 151 0 ((I 151 0) + (nI 1)), L, PP q) := by
  refine hz_Ev.intro (ls := [some (.ref 146), some (.int v1)]) (by decide +kernel) rfl (Nat.le_of_ble_eq_true rfl) (fun X C Z _ => ?_)
  refine hz_iload_n (pc := 0) C dX11_from_0 rfl ?_
  refine hz_iconst (pc := 1) C (v := nI 0) dX11_from_1 (by decide +kernel) ?_
  refine hz_iconst (pc := 2) C (v := nI 1) dX11_from_2 (by decide +kernel) ?_
  refine hz_callSs (pc := 3) C (as := [.int v1, .int (nI 0), .int (nI 1)]) (st := []) (ev_in _ v1 (nI 0) (nI 1)) (hz_new0 _ _) fyX11_in fsX11_52 rfl dX11_from_3 rfl rfl (Nat.le_of_ble_eq_true rfl) (by decide) (hz_cap0 _) ?_
  refine hz_ifb_ne (pc := 6) C (tgt := 14) dX11_from_6 rfl (fun c1 => ?_) (fun c1 => ?_)
  · exact absurd c1 hb
  · refine hz_aload_n (pc := 9) C dX11_from_9 rfl ?_
    refine hz_callVs (pc := 10) C (as := []) (st := []) ev_bad (hz_new0 _ _) fyX11_bad fvX11_60 rfl dX11_from_10 hT146 rfl rfl hA146 rfl rfl (Nat.le_of_ble_eq_true rfl) (by decide) (hz_cap0 _) ?_
    exact hz_iret C Z rfl dX11_from_13 rfl rfl
set_option maxHeartbeats 4000000 in
set_option maxRecDepth 100000 in
theorem ev_alarmF {I : Nat → Nat → Int32} {L : Nat → Nat → Int64} {q : Nat → Nat → Nat} {u : Nat → Nat} (V : HV 12 q I u) (U : WU u) (h6 : u 64 = 6) {kd rm ba : Nat} (hkd : kd < 6) (hrm : rm < 8) (hba : ba ≤ 99) : hz_Ev mX10_alarm TT NN (I, L, PP q) [.ref 1, .int (nI kd), .int (nI rm), .int (nI ba)] 0 0 (some (.int (-4 : Int32))) TT NN (hz_up I 1 10 ((I 1 10) + (nI 1)), L, PP q) := by
  refine hz_Ev.intro (ls := [some (.ref 1), some (.int (nI kd)), some (.int (nI rm)), some (.int (nI ba))]) (by decide +kernel) rfl (Nat.le_of_ble_eq_true rfl) (fun X C Z _ => ?_)
  refine hz_iload_n (pc := 0) C dX10_alarm_0 rfl ?_
  refine hz_iconst (pc := 1) C (v := nI 0) dX10_alarm_1 (by decide +kernel) ?_
  refine hz_iconst (pc := 2) C (v := nI 5) dX10_alarm_2 (by decide +kernel) ?_
  refine hz_callSs (pc := 3) C (as := [.int (nI kd), .int (nI 0), .int (nI 5)]) (st := []) (ev_within _ (nI kd) (nI 0) (nI 5)) (hz_new0 _ _) fyX10_within fsX10_59 rfl dX10_alarm_3 rfl rfl (Nat.le_of_ble_eq_true rfl) (by decide) (hz_cap0 _) ?_
  refine hz_ifb_eq (pc := 6) C (tgt := 26) dX10_alarm_6 rfl (fun cq => absurd (vin (Nat.zero_le _) (show kd ≤ 5 by omega) (by decide)) cq) (fun _ => ?_)
  refine hz_iload_n (pc := 9) C dX10_alarm_9 rfl ?_
  refine hz_callSs (pc := 10) C (as := [.int (nI rm)]) (st := []) (ev_isRoom _ (nI rm)) (hz_new0 _ _) fyX10_isRoom fsX10_55 rfl dX10_alarm_10 rfl rfl (Nat.le_of_ble_eq_true rfl) (by decide) (hz_cap0 _) ?_
  refine hz_ifb_eq (pc := 13) C (tgt := 26) dX10_alarm_13 rfl (fun cq => absurd (vr hrm) cq) (fun _ => ?_)
  refine hz_iload_n (pc := 16) C dX10_alarm_16 rfl ?_
  refine hz_iconst (pc := 17) C (v := nI 0) dX10_alarm_17 (by decide +kernel) ?_
  refine hz_bipush (pc := 18) C (v := nI 99) dX10_alarm_18 (by decide +kernel) ?_
  refine hz_callSs (pc := 20) C (as := [.int (nI ba), .int (nI 0), .int (nI 99)]) (st := []) (ev_within _ (nI ba) (nI 0) (nI 99)) (hz_new0 _ _) fyX10_within fsX10_59 rfl dX10_alarm_20 rfl rfl (Nat.le_of_ble_eq_true rfl) (by decide) (hz_cap0 _) ?_
  refine hz_ifb_ne (pc := 23) C (tgt := 31) dX10_alarm_23 rfl (fun _ => ?_) (fun cq => absurd (vin (Nat.zero_le _) hba (by decide)) cq)
  refine hz_aload_n (pc := 31) C dX10_alarm_31 rfl ?_
  refine hz_getP (pc := 32) C (v := 12) ffX10_26 dX10_alarm_32 hT1 hA1 rfl (hP1_4 q) (by decide) ?_
  refine hz_getI (pc := 35) C (v := nI (u 64)) ffX10_48 dX10_alarm_35 hT12 hA12 rfl (hv_al V) ?_
  refine hz_bipush (pc := 38) C (v := nI 6) dX10_alarm_38 (by decide +kernel) ?_
  refine hz_ic_lt (pc := 40) C (tgt := 48) dX10_alarm_40 rfl (fun cq => absurd cq (nI_nlt (by omega) (by omega))) (fun _ => ?_)
  refine hz_aload_n (pc := 43) C dX10_alarm_43 rfl ?_
  refine hz_callVs (pc := 44) C (as := []) (st := []) ev_refFull (hz_new0 _ _) fyX10_refuseFull fvX10_78 rfl dX10_alarm_44 hT1 rfl rfl hA1 rfl rfl (Nat.le_of_ble_eq_true rfl) (by decide) (hz_cap0 _) ?_
  exact hz_iret C Z rfl dX10_alarm_47 rfl rfl
set_option maxHeartbeats 4000000 in
set_option maxRecDepth 100000 in
theorem ev_alarmFM {I : Nat → Nat → Int32} {L : Nat → Nat → Int64} {q : Nat → Nat → Nat} {u : Nat → Nat} (V : MV I u) (U : WU u) (h6 : u 64 = 6) {kd rm ba : Nat} (hkd : kd < 6) (hrm : rm < 8) (hba : ba ≤ 99) : hz_Ev mX11_alarm TT NN (I, L, PP q) [.ref 146, .int (nI kd), .int (nI rm), .int (nI ba)] 0 0 (some (.int (-4 : Int32))) TT NN (hz_up I 151 2 ((I 151 2) + (nI 1)), L, PP q) := by
  refine hz_Ev.intro (ls := [some (.ref 146), some (.int (nI kd)), some (.int (nI rm)), some (.int (nI ba))]) (by decide +kernel) rfl (Nat.le_of_ble_eq_true rfl) (fun X C Z _ => ?_)
  refine hz_iload_n (pc := 0) C dX11_alarm_0 rfl ?_
  refine hz_iconst (pc := 1) C (v := nI 0) dX11_alarm_1 (by decide +kernel) ?_
  refine hz_iconst (pc := 2) C (v := nI 5) dX11_alarm_2 (by decide +kernel) ?_
  refine hz_callSs (pc := 3) C (as := [.int (nI kd), .int (nI 0), .int (nI 5)]) (st := []) (ev_in _ (nI kd) (nI 0) (nI 5)) (hz_new0 _ _) fyX11_in fsX11_52 rfl dX11_alarm_3 rfl rfl (Nat.le_of_ble_eq_true rfl) (by decide) (hz_cap0 _) ?_
  refine hz_ifb_eq (pc := 6) C (tgt := 26) dX11_alarm_6 rfl (fun cq => absurd (vin (Nat.zero_le _) (show kd ≤ 5 by omega) (by decide)) cq) (fun _ => ?_)
  refine hz_iload_n (pc := 9) C dX11_alarm_9 rfl ?_
  refine hz_callSs (pc := 10) C (as := [.int (nI rm)]) (st := []) (ev_isRoomM _ (nI rm)) (hz_new0 _ _) fyX11_isRoom fsX11_56 rfl dX11_alarm_10 rfl rfl (Nat.le_of_ble_eq_true rfl) (by decide) (hz_cap0 _) ?_
  refine hz_ifb_eq (pc := 13) C (tgt := 26) dX11_alarm_13 rfl (fun cq => absurd (vr hrm) cq) (fun _ => ?_)
  refine hz_iload_n (pc := 16) C dX11_alarm_16 rfl ?_
  refine hz_iconst (pc := 17) C (v := nI 0) dX11_alarm_17 (by decide +kernel) ?_
  refine hz_bipush (pc := 18) C (v := nI 99) dX11_alarm_18 (by decide +kernel) ?_
  refine hz_callSs (pc := 20) C (as := [.int (nI ba), .int (nI 0), .int (nI 99)]) (st := []) (ev_in _ (nI ba) (nI 0) (nI 99)) (hz_new0 _ _) fyX11_in fsX11_52 rfl dX11_alarm_20 rfl rfl (Nat.le_of_ble_eq_true rfl) (by decide) (hz_cap0 _) ?_
  refine hz_ifb_ne (pc := 23) C (tgt := 31) dX11_alarm_23 rfl (fun _ => ?_) (fun cq => absurd (vin (Nat.zero_le _) hba (by decide)) cq)
  refine hz_aload_n (pc := 31) C dX11_alarm_31 rfl ?_
  refine hz_getP (pc := 32) C (v := 147) ffX11_7 dX11_alarm_32 hT146 hA146 rfl (hP146_0 q) (by decide) ?_
  refine hz_bipush (pc := 35) C (v := nI 64) dX11_alarm_35 (by decide +kernel) ?_
  refine hz_iald (pc := 37) C (v := nI (u 64)) (j := 64) dX11_alarm_37 hT147 hA147 rfl (by decide) (by decide) (mg V (j := 64) (by omega) (by omega)) ?_
  refine hz_bipush (pc := 38) C (v := nI 6) dX11_alarm_38 (by decide +kernel) ?_
  refine hz_ic_ne (pc := 40) C (tgt := 48) dX11_alarm_40 rfl (fun cq => absurd ((nI_eq (by omega) (by omega)).mpr (by omega)) cq) (fun _ => ?_)
  refine hz_aload_n (pc := 43) C dX11_alarm_43 rfl ?_
  refine hz_callVs (pc := 44) C (as := []) (st := []) ev_full (hz_new0 _ _) fyX11_full fvX11_64 rfl dX11_alarm_44 hT146 rfl rfl hA146 rfl rfl (Nat.le_of_ble_eq_true rfl) (by decide) (hz_cap0 _) ?_
  exact hz_iret C Z rfl dX11_alarm_47 rfl rfl
set_option maxHeartbeats 4000000 in
set_option maxRecDepth 100000 in
theorem ev_noteF {I : Nat → Nat → Int32} {L : Nat → Nat → Int64} {q : Nat → Nat → Nat} {u : Nat → Nat} (V : HV 12 q I u) (U : WU u) (h6 : u 77 = 6) {r t : Nat} (hr : r < 8) (ht : t ≤ 8) : hz_Ev mX10_note TT NN (I, L, PP q) [.ref 1, .int (nI r), .int (nI t - 1)] 0 0 (some (.int (-4 : Int32))) TT NN (hz_up I 1 10 ((I 1 10) + (nI 1)), L, PP q) := by
  refine hz_Ev.intro (ls := [some (.ref 1), some (.int (nI r)), some (.int (nI t - 1))]) (by decide +kernel) rfl (Nat.le_of_ble_eq_true rfl) (fun X C Z _ => ?_)
  refine hz_iload_n (pc := 0) C dX10_note_0 rfl ?_
  refine hz_callSs (pc := 1) C (as := [.int (nI r)]) (st := []) (ev_isRoom _ (nI r)) (hz_new0 _ _) fyX10_isRoom fsX10_55 rfl dX10_note_1 rfl rfl (Nat.le_of_ble_eq_true rfl) (by decide) (hz_cap0 _) ?_
  refine hz_ifb_eq (pc := 4) C (tgt := 17) dX10_note_4 rfl (fun cq => absurd (vr hr) cq) (fun _ => ?_)
  refine hz_iload_n (pc := 7) C dX10_note_7 rfl ?_
  refine hz_iconst (pc := 8) C (v := (-1 : Int32)) dX10_note_8 (by decide +kernel) ?_
  refine hz_bipush (pc := 9) C (v := nI 7) dX10_note_9 (by decide +kernel) ?_
  refine hz_callSs (pc := 11) C (as := [.int (nI t - 1), .int (-1 : Int32), .int (nI 7)]) (st := []) (ev_within _ (nI t - 1) (-1 : Int32) (nI 7)) (hz_new0 _ _) fyX10_within fsX10_59 rfl dX10_note_11 rfl rfl (Nat.le_of_ble_eq_true rfl) (by decide) (hz_cap0 _) ?_
  refine hz_ifb_ne (pc := 14) C (tgt := 22) dX10_note_14 rfl (fun _ => ?_) (fun cq => absurd (vt ht) cq)
  refine hz_aload_n (pc := 22) C dX10_note_22 rfl ?_
  refine hz_getP (pc := 23) C (v := 12) ffX10_26 dX10_note_23 hT1 hA1 rfl (hP1_4 q) (by decide) ?_
  refine hz_getI (pc := 26) C (v := nI (u 77)) ffX10_219 dX10_note_26 hT12 hA12 rfl (hv_nt V) ?_
  refine hz_bipush (pc := 29) C (v := nI 6) dX10_note_29 (by decide +kernel) ?_
  refine hz_ic_lt (pc := 31) C (tgt := 39) dX10_note_31 rfl (fun cq => absurd cq (nI_nlt (by omega) (by omega))) (fun _ => ?_)
  refine hz_aload_n (pc := 34) C dX10_note_34 rfl ?_
  refine hz_callVs (pc := 35) C (as := []) (st := []) ev_refFull (hz_new0 _ _) fyX10_refuseFull fvX10_78 rfl dX10_note_35 hT1 rfl rfl hA1 rfl rfl (Nat.le_of_ble_eq_true rfl) (by decide) (hz_cap0 _) ?_
  exact hz_iret C Z rfl dX10_note_38 rfl rfl
set_option maxHeartbeats 4000000 in
set_option maxRecDepth 100000 in
theorem ev_noteFM {I : Nat → Nat → Int32} {L : Nat → Nat → Int64} {q : Nat → Nat → Nat} {u : Nat → Nat} (V : MV I u) (U : WU u) (h6 : u 77 = 6) {r t : Nat} (hr : r < 8) (ht : t ≤ 8) : hz_Ev mX11_note TT NN (I, L, PP q) [.ref 146, .int (nI r), .int (nI t - 1)] 0 0 (some (.int (-4 : Int32))) TT NN (hz_up I 151 2 ((I 151 2) + (nI 1)), L, PP q) := by
  refine hz_Ev.intro (ls := [some (.ref 146), some (.int (nI r)), some (.int (nI t - 1))]) (by decide +kernel) rfl (Nat.le_of_ble_eq_true rfl) (fun X C Z _ => ?_)
  refine hz_iload_n (pc := 0) C dX11_note_0 rfl ?_
  refine hz_callSs (pc := 1) C (as := [.int (nI r)]) (st := []) (ev_isRoomM _ (nI r)) (hz_new0 _ _) fyX11_isRoom fsX11_56 rfl dX11_note_1 rfl rfl (Nat.le_of_ble_eq_true rfl) (by decide) (hz_cap0 _) ?_
  refine hz_ifb_eq (pc := 4) C (tgt := 17) dX11_note_4 rfl (fun cq => absurd (vr hr) cq) (fun _ => ?_)
  refine hz_iload_n (pc := 7) C dX11_note_7 rfl ?_
  refine hz_iconst (pc := 8) C (v := (-1 : Int32)) dX11_note_8 (by decide +kernel) ?_
  refine hz_bipush (pc := 9) C (v := nI 7) dX11_note_9 (by decide +kernel) ?_
  refine hz_callSs (pc := 11) C (as := [.int (nI t - 1), .int (-1 : Int32), .int (nI 7)]) (st := []) (ev_in _ (nI t - 1) (-1 : Int32) (nI 7)) (hz_new0 _ _) fyX11_in fsX11_52 rfl dX11_note_11 rfl rfl (Nat.le_of_ble_eq_true rfl) (by decide) (hz_cap0 _) ?_
  refine hz_ifb_ne (pc := 14) C (tgt := 22) dX11_note_14 rfl (fun _ => ?_) (fun cq => absurd (vt ht) cq)
  refine hz_aload_n (pc := 22) C dX11_note_22 rfl ?_
  refine hz_getP (pc := 23) C (v := 147) ffX11_7 dX11_note_23 hT146 hA146 rfl (hP146_0 q) (by decide) ?_
  refine hz_bipush (pc := 26) C (v := nI 77) dX11_note_26 (by decide +kernel) ?_
  refine hz_iald (pc := 28) C (v := nI (u 77)) (j := 77) dX11_note_28 hT147 hA147 rfl (by decide) (by decide) (mg V (j := 77) (by omega) (by omega)) ?_
  refine hz_bipush (pc := 29) C (v := nI 6) dX11_note_29 (by decide +kernel) ?_
  refine hz_ic_ne (pc := 31) C (tgt := 39) dX11_note_31 rfl (fun cq => absurd ((nI_eq (by omega) (by omega)).mpr (by omega)) cq) (fun _ => ?_)
  refine hz_aload_n (pc := 34) C dX11_note_34 rfl ?_
  refine hz_callVs (pc := 35) C (as := []) (st := []) ev_full (hz_new0 _ _) fyX11_full fvX11_64 rfl dX11_note_35 hT146 rfl rfl hA146 rfl rfl (Nat.le_of_ble_eq_true rfl) (by decide) (hz_cap0 _) ?_
  exact hz_iret C Z rfl dX11_note_38 rfl rfl
set_option maxHeartbeats 4000000 in
set_option maxRecDepth 100000 in
theorem ev_takeN {I : Nat → Nat → Int32} {L : Nat → Nat → Int64} {q : Nat → Nat → Nat} {u : Nat → Nat} (V : HV 12 q I u) (U : WU u) {k x : Nat} (hk : k < u 64) (hx : x ≤ 1) (hp : ¬ u (71 + k) = u 91) : hz_Ev mX10_take TT NN (I, L, PP q) [.ref 1, .int (nI k), .int (nI x)] 0 0 (some (.int (-3 : Int32))) TT NN (hz_up I 1 9 ((I 1 9) + (nI 1)), L, PP q) := by
  have hal := wu_al U
  have hrm := wu_rm U hk
  have hpl := wu_pl U
  refine hz_Ev.intro (ls := [some (.ref 1), some (.int (nI k)), some (.int (nI x))]) (by decide +kernel) rfl (Nat.le_of_ble_eq_true rfl) (fun X C Z _ => ?_)
  refine hz_aload_n (pc := 0) C dX10_take_0 rfl ?_
  refine hz_iload_n (pc := 1) C dX10_take_1 rfl ?_
  refine hz_callVs (pc := 2) C (as := [.int (nI k)]) (st := []) (ev_isAlarm V U (nI k)) (hz_new0 _ _) fyX10_isAlarm fvX10_123 rfl dX10_take_2 hT1 rfl rfl hA1 rfl rfl (Nat.le_of_ble_eq_true rfl) (by decide) (hz_cap0 _) ?_
  refine hz_ifb_eq (pc := 5) C (tgt := 17) dX10_take_5 rfl (fun cq => absurd (vk hk (wu_al U)) cq) (fun _ => ?_)
  refine hz_iload_n (pc := 8) C dX10_take_8 rfl ?_
  refine hz_iconst (pc := 9) C (v := nI 0) dX10_take_9 (by decide +kernel) ?_
  refine hz_iconst (pc := 10) C (v := nI 1) dX10_take_10 (by decide +kernel) ?_
  refine hz_callSs (pc := 11) C (as := [.int (nI x), .int (nI 0), .int (nI 1)]) (st := []) (ev_within _ (nI x) (nI 0) (nI 1)) (hz_new0 _ _) fyX10_within fsX10_59 rfl dX10_take_11 rfl rfl (Nat.le_of_ble_eq_true rfl) (by decide) (hz_cap0 _) ?_
  refine hz_ifb_ne (pc := 14) C (tgt := 22) dX10_take_14 rfl (fun _ => ?_) (fun cq => absurd (vin (Nat.zero_le _) hx (by decide)) cq)
  refine hz_aload_n (pc := 22) C dX10_take_22 rfl ?_
  refine hz_getP (pc := 23) C (v := 12) ffX10_26 dX10_take_23 hT1 hA1 rfl (hP1_4 q) (by decide) ?_
  refine hz_getP (pc := 26) C (v := 16) ffX10_126 dX10_take_26 hT12 hA12 rfl (hP12_4 q) (by decide) ?_
  refine hz_iload_n (pc := 29) C dX10_take_29 rfl ?_
  refine hz_iald (pc := 30) C (v := nI (u (71 + k))) (j := k) dX10_take_30 hT16 hA16 rfl (by omega) (by decide) (hv_rm V (by omega)) ?_
  refine hz_aload_n (pc := 31) C dX10_take_31 rfl ?_
  refine hz_getP (pc := 32) C (v := 12) ffX10_26 dX10_take_32 hT1 hA1 rfl (hP1_4 q) (by decide) ?_
  refine hz_getP (pc := 35) C (v := 19) ffX10_102 dX10_take_35 hT12 hA12 rfl (hP12_7 q) (by decide) ?_
  refine hz_getI (pc := 38) C (v := nI (u 91)) ffX10_106 dX10_take_38 hT19 hA19 rfl (hv_pl V) ?_
  refine hz_ic_eq (pc := 41) C (tgt := 49) dX10_take_41 rfl (fun cq => absurd ((nI_eq (by omega) (by omega)).mp cq) (by omega)) (fun _ => ?_)
  refine hz_aload_n (pc := 44) C dX10_take_44 rfl ?_
  refine hz_callVs (pc := 45) C (as := []) (st := []) ev_refNo (hz_new0 _ _) fyX10_refuseNo fvX10_120 rfl dX10_take_45 hT1 rfl rfl hA1 rfl rfl (Nat.le_of_ble_eq_true rfl) (by decide) (hz_cap0 _) ?_
  exact hz_iret C Z rfl dX10_take_48 rfl rfl
set_option maxHeartbeats 4000000 in
set_option maxRecDepth 100000 in
theorem ev_takeNM {I : Nat → Nat → Int32} {L : Nat → Nat → Int64} {q : Nat → Nat → Nat} {u : Nat → Nat} (V : MV I u) (U : WU u) {k x : Nat} (hk : k < u 64) (hx : x ≤ 1) (hp : ¬ u (71 + k) = u 91) : hz_Ev mX11_take TT NN (I, L, PP q) [.ref 146, .int (nI k), .int (nI x)] 0 0 (some (.int (-3 : Int32))) TT NN (hz_up I 151 1 ((I 151 1) + (nI 1)), L, PP q) := by
  have hal := wu_al U
  have hrm := wu_rm U hk
  have hpl := wu_pl U
  refine hz_Ev.intro (ls := [some (.ref 146), some (.int (nI k)), some (.int (nI x))]) (by decide +kernel) rfl (Nat.le_of_ble_eq_true rfl) (fun X C Z _ => ?_)
  refine hz_aload_n (pc := 0) C dX11_take_0 rfl ?_
  refine hz_iload_n (pc := 1) C dX11_take_1 rfl ?_
  refine hz_callVs (pc := 2) C (as := [.int (nI k)]) (st := []) (ev_isAlarmM V U (nI k)) (hz_new0 _ _) fyX11_isAlarm fvX11_160 rfl dX11_take_2 hT146 rfl rfl hA146 rfl rfl (Nat.le_of_ble_eq_true rfl) (by decide) (hz_cap0 _) ?_
  refine hz_ifb_eq (pc := 5) C (tgt := 17) dX11_take_5 rfl (fun cq => absurd (vk hk (wu_al U)) cq) (fun _ => ?_)
  refine hz_iload_n (pc := 8) C dX11_take_8 rfl ?_
  refine hz_iconst (pc := 9) C (v := nI 0) dX11_take_9 (by decide +kernel) ?_
  refine hz_iconst (pc := 10) C (v := nI 1) dX11_take_10 (by decide +kernel) ?_
  refine hz_callSs (pc := 11) C (as := [.int (nI x), .int (nI 0), .int (nI 1)]) (st := []) (ev_in _ (nI x) (nI 0) (nI 1)) (hz_new0 _ _) fyX11_in fsX11_52 rfl dX11_take_11 rfl rfl (Nat.le_of_ble_eq_true rfl) (by decide) (hz_cap0 _) ?_
  refine hz_ifb_ne (pc := 14) C (tgt := 22) dX11_take_14 rfl (fun _ => ?_) (fun cq => absurd (vin (Nat.zero_le _) hx (by decide)) cq)
  refine hz_aload_n (pc := 22) C dX11_take_22 rfl ?_
  refine hz_getP (pc := 23) C (v := 147) ffX11_7 dX11_take_23 hT146 hA146 rfl (hP146_0 q) (by decide) ?_
  refine hz_bipush (pc := 26) C (v := nI 71) dX11_take_26 (by decide +kernel) ?_
  refine hz_iload_n (pc := 28) C dX11_take_28 rfl ?_
  refine hz_iadd (pc := 29) C (v := nI (71 + k)) dX11_take_29 (nI_add _ _) ?_
  refine hz_iald (pc := 30) C (v := nI (u (71 + k))) (j := 71 + k) dX11_take_30 hT147 hA147 rfl (by omega) (by decide) (mg V (j := 71 + k) (by omega) (by omega)) ?_
  refine hz_aload_n (pc := 31) C dX11_take_31 rfl ?_
  refine hz_getP (pc := 32) C (v := 147) ffX11_7 dX11_take_32 hT146 hA146 rfl (hP146_0 q) (by decide) ?_
  refine hz_bipush (pc := 35) C (v := nI 91) dX11_take_35 (by decide +kernel) ?_
  refine hz_iald (pc := 37) C (v := nI (u 91)) (j := 91) dX11_take_37 hT147 hA147 rfl (by decide) (by decide) (mg V (j := 91) (by omega) (by omega)) ?_
  refine hz_ic_eq (pc := 38) C (tgt := 46) dX11_take_38 rfl (fun cq => absurd ((nI_eq (by omega) (by omega)).mp cq) (by omega)) (fun _ => ?_)
  refine hz_aload_n (pc := 41) C dX11_take_41 rfl ?_
  refine hz_callVs (pc := 42) C (as := []) (st := []) ev_no (hz_new0 _ _) fyX11_no fvX11_157 rfl dX11_take_42 hT146 rfl rfl hA146 rfl rfl (Nat.le_of_ble_eq_true rfl) (by decide) (hz_cap0 _) ?_
  exact hz_iret C Z rfl dX11_take_45 rfl rfl
set_option maxHeartbeats 4000000 in
set_option maxRecDepth 100000 in
theorem ev_undoN {I : Nat → Nat → Int32} {L : Nat → Nat → Int64} {q : Nat → Nat → Nat} {u : Nat → Nat} (V : HV 12 q I u) (U : WU u) (hn : u 100 = 0) : hz_Ev mX10_undo TT NN (I, L, PP q) [.ref 1] 0 0 (some (.int (-3 : Int32))) TT NN (hz_up I 1 9 ((I 1 9) + (nI 1)), L, PP q) := by
  refine hz_Ev.intro (ls := [some (.ref 1)]) (by decide +kernel) rfl (Nat.le_of_ble_eq_true rfl) (fun X C Z _ => ?_)
  refine hz_aload_n (pc := 0) C dX10_undo_0 rfl ?_
  refine hz_getP (pc := 1) C (v := 12) ffX10_26 dX10_undo_1 hT1 hA1 rfl (hP1_4 q) (by decide) ?_
  refine hz_getI (pc := 4) C (v := nI (u 100)) ffX10_140 dX10_undo_4 hT12 hA12 rfl (hv_un V) ?_
  refine hz_if_gt (pc := 7) C (tgt := 15) dX10_undo_7 rfl (fun cq => absurd cq (show ¬ 0 < nI (u 100) by rw [show u 100 = 0 by omega, nI_0]; decide)) (fun _ => ?_)
  refine hz_aload_n (pc := 10) C dX10_undo_10 rfl ?_
  refine hz_callVs (pc := 11) C (as := []) (st := []) ev_refNo (hz_new0 _ _) fyX10_refuseNo fvX10_120 rfl dX10_undo_11 hT1 rfl rfl hA1 rfl rfl (Nat.le_of_ble_eq_true rfl) (by decide) (hz_cap0 _) ?_
  exact hz_iret C Z rfl dX10_undo_14 rfl rfl
set_option maxHeartbeats 4000000 in
set_option maxRecDepth 100000 in
theorem ev_undoNM {I : Nat → Nat → Int32} {L : Nat → Nat → Int64} {q : Nat → Nat → Nat} {u : Nat → Nat} (V : MV I u) (U : WU u) (hn : u 100 = 0) : hz_Ev mX11_undo TT NN (I, L, PP q) [.ref 146] 0 0 (some (.int (-3 : Int32))) TT NN (hz_up I 151 1 ((I 151 1) + (nI 1)), L, PP q) := by
  refine hz_Ev.intro (ls := [some (.ref 146)]) (by decide +kernel) rfl (Nat.le_of_ble_eq_true rfl) (fun X C Z _ => ?_)
  refine hz_aload_n (pc := 0) C dX11_undo_0 rfl ?_
  refine hz_getP (pc := 1) C (v := 147) ffX11_7 dX11_undo_1 hT146 hA146 rfl (hP146_0 q) (by decide) ?_
  refine hz_bipush (pc := 4) C (v := nI 100) dX11_undo_4 (by decide +kernel) ?_
  refine hz_iald (pc := 6) C (v := nI (u 100)) (j := 100) dX11_undo_6 hT147 hA147 rfl (by decide) (by decide) (mg V (j := 100) (by omega) (by omega)) ?_
  refine hz_if_ne (pc := 7) C (tgt := 15) dX11_undo_7 rfl (fun cq => absurd (show nI (u 100) = 0 by rw [show u 100 = 0 by omega]; exact nI_0) cq) (fun _ => ?_)
  refine hz_aload_n (pc := 10) C dX11_undo_10 rfl ?_
  refine hz_callVs (pc := 11) C (as := []) (st := []) ev_no (hz_new0 _ _) fyX11_no fvX11_157 rfl dX11_undo_11 hT146 rfl rfl hA146 rfl rfl (Nat.le_of_ble_eq_true rfl) (by decide) (hz_cap0 _) ?_
  exact hz_iret C Z rfl dX11_undo_14 rfl rfl
set_option maxHeartbeats 4000000 in
set_option maxRecDepth 100000 in
theorem ev_walkN {I : Nat → Nat → Int32} {L : Nat → Nat → Int64} {q : Nat → Nat → Nat} {u : Nat → Nat} (V : HV 12 q I u) (U : WU u) {r : Nat} (hr : r < 8) (hd : 1000 ≤ ds u (u 91) r) : hz_Ev mX10_walk TT NN (I, L, PP q) [.ref 1, .int (nI r)] 0 0 (some (.int (-3 : Int32))) TT NN (hz_up (ms u I) 1 9 (((ms u I) 1 9) + (nI 1)), L, PP q) := by
  have hpl := wu_pl U
  have hdl := ds_le U hpl hr
  refine hz_Ev.intro (ls := [some (.ref 1), some (.int (nI r)), none]) (by decide +kernel) rfl (Nat.le_of_ble_eq_true rfl) (fun X C Z _ => ?_)
  refine hz_iload_n (pc := 0) C dX10_walk_0 rfl ?_
  refine hz_callSs (pc := 1) C (as := [.int (nI r)]) (st := []) (ev_isRoom _ (nI r)) (hz_new0 _ _) fyX10_isRoom fsX10_55 rfl dX10_walk_1 rfl rfl (Nat.le_of_ble_eq_true rfl) (by decide) (hz_cap0 _) ?_
  refine hz_ifb_ne (pc := 4) C (tgt := 12) dX10_walk_4 rfl (fun _ => ?_) (fun cq => absurd (vr hr) cq)
  refine hz_aload_n (pc := 12) C dX10_walk_12 rfl ?_
  refine hz_getP (pc := 13) C (v := 12) ffX10_26 dX10_walk_13 hT1 hA1 rfl (hP1_4 q) (by decide) ?_
  refine hz_aload_n (pc := 16) C dX10_walk_16 rfl ?_
  refine hz_getP (pc := 17) C (v := 12) ffX10_26 dX10_walk_17 hT1 hA1 rfl (hP1_4 q) (by decide) ?_
  refine hz_getP (pc := 20) C (v := 19) ffX10_102 dX10_walk_20 hT12 hA12 rfl (hP12_7 q) (by decide) ?_
  refine hz_getI (pc := 23) C (v := nI (u 91)) ffX10_106 dX10_walk_23 hT19 hA19 rfl (hv_pl V) ?_
  refine hz_iload_n (pc := 26) C dX10_walk_26 rfl ?_
  refine hz_callVs (pc := 27) C (as := [.int (nI (u 91)), .int (nI r)]) (st := []) (ev_dist (L := L) V U (a := u 91) (b := r) (by omega) (by omega)) (hz_new0 _ _) fyX2_distanceBetween fvX10_117 rfl dX10_walk_27 hT12 rfl rfl hA12 rfl rfl (Nat.le_of_ble_eq_true rfl) (by decide) (hz_cap0 _) ?_
  refine hz_istore_n (pc := 30) C (ls' := [some (.ref 1), some (.int (nI r)), some (.int (nI (ds u (u 91) r)))]) dX10_walk_30 (Nat.le_of_ble_eq_true rfl) rfl ?_
  refine hz_iload_n (pc := 31) C dX10_walk_31 rfl ?_
  refine hz_sipush (pc := 32) C (v := nI 1000) dX10_walk_32 (by decide +kernel) ?_
  refine hz_ic_lt (pc := 35) C (tgt := 43) dX10_walk_35 rfl (fun cq => absurd cq (nI_nlt (by omega) (by omega))) (fun _ => ?_)
  refine hz_aload_n (pc := 38) C dX10_walk_38 rfl ?_
  refine hz_callVs (pc := 39) C (as := []) (st := []) ev_refNo (hz_new0 _ _) fyX10_refuseNo fvX10_120 rfl dX10_walk_39 hT1 rfl rfl hA1 rfl rfl (Nat.le_of_ble_eq_true rfl) (by decide) (hz_cap0 _) ?_
  exact hz_iret C Z rfl dX10_walk_42 rfl rfl
set_option maxHeartbeats 4000000 in
set_option maxRecDepth 100000 in
theorem ev_walkNM {I : Nat → Nat → Int32} {L : Nat → Nat → Int64} {q : Nat → Nat → Nat} {u : Nat → Nat} (V : MV I u) (U : WU u) {r : Nat} (hr : r < 8) (hd : 1000 ≤ ds u (u 91) r) : hz_Ev mX11_walk TT NN (I, L, PP q) [.ref 146, .int (nI r)] 0 0 (some (.int (-3 : Int32))) TT NN (hz_up (lm u I) 151 1 (((lm u I) 151 1) + (nI 1)), L, PP q) := by
  have hpl := wu_pl U
  refine hz_Ev.intro (ls := [some (.ref 146), some (.int (nI r)), none]) (by decide +kernel) rfl (Nat.le_of_ble_eq_true rfl) (fun X C Z _ => ?_)
  refine hz_iload_n (pc := 0) C dX11_walk_0 rfl ?_
  refine hz_callSs (pc := 1) C (as := [.int (nI r)]) (st := []) (ev_isRoomM _ (nI r)) (hz_new0 _ _) fyX11_isRoom fsX11_56 rfl dX11_walk_1 rfl rfl (Nat.le_of_ble_eq_true rfl) (by decide) (hz_cap0 _) ?_
  refine hz_ifb_ne (pc := 4) C (tgt := 12) dX11_walk_4 rfl (fun _ => ?_) (fun cq => absurd (vr hr) cq)
  refine hz_aload_n (pc := 12) C dX11_walk_12 rfl ?_
  refine hz_callVv (pc := 13) C (as := []) (st := []) (ev_layFar V U) (hz_new0 _ _) fyX11_layFar fvX11_146 rfl dX11_walk_13 hT146 rfl rfl hA146 rfl rfl (Nat.le_of_ble_eq_true rfl) (by decide) (hz_cap0 _) ?_
  refine hz_aload_n (pc := 16) C dX11_walk_16 rfl ?_
  refine hz_aload_n (pc := 17) C dX11_walk_17 rfl ?_
  refine hz_getP (pc := 18) C (v := 147) ffX11_7 dX11_walk_18 hT146 hA146 rfl (hP146_0 q) (by decide) ?_
  refine hz_bipush (pc := 21) C (v := nI 91) dX11_walk_21 (by decide +kernel) ?_
  refine hz_iald (pc := 23) C (v := nI (u 91)) (j := 91) dX11_walk_23 hT147 hA147 rfl (by decide) (by decide) (mg (MV.lM V) (j := 91) (by omega) (by omega)) ?_
  refine hz_iload_n (pc := 24) C dX11_walk_24 rfl ?_
  refine hz_callVs (pc := 25) C (as := [.int (nI (u 91)), .int (nI r)]) (st := []) (by have h9 := ev_farX (L := L) (q := q) (a := u 91) (b := r) (by omega) (by omega) ((mf_lm V).2 _ _ (by omega) (by omega)); rw [fa_inf (by omega)] at h9; exact h9) (hz_new0 _ _) fyX11_farOf fvX11_153 rfl dX11_walk_25 hT146 rfl rfl hA146 rfl rfl (Nat.le_of_ble_eq_true rfl) (by decide) (hz_cap0 _) ?_
  refine hz_istore_n (pc := 28) C (ls' := [some (.ref 146), some (.int (nI r)), some (.int (-1 : Int32))]) dX11_walk_28 (Nat.le_of_ble_eq_true rfl) rfl ?_
  refine hz_iload_n (pc := 29) C dX11_walk_29 rfl ?_
  refine hz_iconst (pc := 30) C (v := (-1 : Int32)) dX11_walk_30 (by decide +kernel) ?_
  refine hz_ic_ne (pc := 31) C (tgt := 39) dX11_walk_31 rfl (fun cq => absurd rfl cq) (fun _ => ?_)
  refine hz_aload_n (pc := 34) C dX11_walk_34 rfl ?_
  refine hz_callVs (pc := 35) C (as := []) (st := []) ev_no (hz_new0 _ _) fyX11_no fvX11_157 rfl dX11_walk_35 hT146 rfl rfl hA146 rfl rfl (Nat.le_of_ble_eq_true rfl) (by decide) (hz_cap0 _) ?_
  exact hz_iret C Z rfl dX11_walk_38 rfl rfl
theorem i2c_n {c : Nat} (h : c < 128) : ((nI c).toUInt32 % 65536).toInt32 = nI c := by
  have h9 : ∀ c, c < 128 → ((nI c).toUInt32 % 65536).toInt32 = nI c := by decide +kernel
  exact h9 c h
theorem nar_c {c : Nat} (h : c < 128) : vp_nar .char (nI c) = nI c := by
  have h9 : ∀ c, c < 128 → vp_nar .char (nI c) = nI c := by decide +kernel
  exact h9 c h
set_option maxHeartbeats 4000000 in
set_option maxRecDepth 100000 in
theorem ev_textAdd {I : Nat → Nat → Int32} {L : Nat → Nat → Int64} {q : Nat → Nat → Nat} {t c : Nat} (ht : I 2 1 = nI t) (h150 : t < 150) (hc : c < 128) : hz_Ev mX8_add TT NN (I, L, PP q) [.ref 2, .int (nI c)] 0 0 none TT NN (hz_up (hz_up I 3 t (nI c)) 2 1 (nI (t + 1)), L, PP q) := by
  refine hz_Ev.intro (ls := [some (.ref 2), some (.int (nI c))]) (by decide +kernel) rfl (Nat.le_of_ble_eq_true rfl) (fun X C Z _ => ?_)
  refine hz_aload_n (pc := 0) C dX8_add_0 rfl ?_
  refine hz_getI (pc := 1) C (v := nI t) ffX8_15 dX8_add_1 hT2 hA2 rfl ht ?_
  refine hz_aload_n (pc := 4) C dX8_add_4 rfl ?_
  refine hz_getP (pc := 5) C (v := 3) ffX8_9 dX8_add_5 hT2 hA2 rfl (hP2_0 q) (by decide) ?_
  refine hz_alen (pc := 8) C (v := nI 150) dX8_add_8 hT3 ⟨by decide, by decide⟩ hA3 rfl ?_
  refine hz_ic_ge (pc := 9) C (tgt := 32) dX8_add_9 rfl (fun cq => absurd cq (nI_ge (by omega) (by omega))) (fun _ => ?_)
  refine hz_aload_n (pc := 12) C dX8_add_12 rfl ?_
  refine hz_getP (pc := 13) C (v := 3) ffX8_9 dX8_add_13 hT2 hA2 rfl (hP2_0 q) (by decide) ?_
  refine hz_aload_n (pc := 16) C dX8_add_16 rfl ?_
  refine hz_getI (pc := 17) C (v := nI t) ffX8_15 dX8_add_17 hT2 hA2 rfl ht ?_
  refine hz_iload_n (pc := 20) C dX8_add_20 rfl ?_
  refine hz_cast (pc := 21) C (v := nI c) (j := t) (M' := (hz_up I 3 t (nI c), L, PP q)) dX8_add_21 hT3 hA3 rfl (by omega) (by decide) (nar_c hc) rfl ?_
  refine hz_aload_n (pc := 22) C dX8_add_22 rfl ?_
  refine hz_dup (pc := 23) C dX8_add_23 rfl ?_
  refine hz_getI (pc := 24) C (v := nI t) ffX8_15 dX8_add_24 hT2 hA2 rfl (by simp (disch := omega) only [hz_up_ne]; exact ht) ?_
  refine hz_iconst (pc := 27) C (v := nI 1) dX8_add_27 (by decide +kernel) ?_
  refine hz_iadd (pc := 28) C (v := nI (t + 1)) dX8_add_28 (nI_add _ _) ?_
  refine hz_putI (pc := 29) C (M' := (hz_up (hz_up I 3 t (nI c)) 2 1 (nI (t + 1)), L, PP q)) ffX8_15 dX8_add_29 hT2 hA2 rfl rfl ⟨rfl, rfl⟩ rfl ?_
  exact hz_vret C Z rfl dX8_add_32 rfl
set_option maxHeartbeats 4000000 in
set_option maxRecDepth 100000 in
theorem ev_type {I : Nat → Nat → Int32} {L : Nat → Nat → Int64} {q : Nat → Nat → Nat} {t c : Nat} (ht : I 2 1 = nI t) (h150 : t < 150) (hc : c < 128) : hz_Ev mX10_type TT NN (I, L, PP q) [.ref 1, .int (nI c)] 0 0 (some (.int (nI (t + 1)))) TT NN (hz_up (hz_up I 3 t (nI c)) 2 1 (nI (t + 1)), L, PP q) := by
  refine hz_Ev.intro (ls := [some (.ref 1), some (.int (nI c))]) (by decide +kernel) rfl (Nat.le_of_ble_eq_true rfl) (fun X C Z _ => ?_)
  refine hz_iload_n (pc := 0) C dX10_type_0 rfl ?_
  refine hz_iconst (pc := 1) C (v := nI 0) dX10_type_1 (by decide +kernel) ?_
  refine hz_bipush (pc := 2) C (v := nI 127) dX10_type_2 (by decide +kernel) ?_
  refine hz_callSs (pc := 4) C (as := [.int (nI c), .int (nI 0), .int (nI 127)]) (st := []) (ev_within _ (nI c) (nI 0) (nI 127)) (hz_new0 _ _) fyX10_within fsX10_59 rfl dX10_type_4 rfl rfl (Nat.le_of_ble_eq_true rfl) (by decide) (hz_cap0 _) ?_
  refine hz_ifb_ne (pc := 7) C (tgt := 15) dX10_type_7 rfl (fun _ => ?_) (fun cq => absurd (vin (Nat.zero_le _) (show c ≤ 127 by omega) (by decide)) cq)
  refine hz_aload_n (pc := 15) C dX10_type_15 rfl ?_
  refine hz_getP (pc := 16) C (v := 2) ffX10_10 dX10_type_16 hT1 hA1 rfl (hP1_0 q) (by decide) ?_
  refine hz_getI (pc := 19) C (v := nI t) ffX10_84 dX10_type_19 hT2 hA2 rfl ht ?_
  refine hz_sipush (pc := 22) C (v := nI 150) dX10_type_22 (by decide +kernel) ?_
  refine hz_ic_lt (pc := 25) C (tgt := 33) dX10_type_25 rfl (fun _ => ?_) (fun cq => absurd (nI_lt (by omega) (by omega)) cq)
  refine hz_aload_n (pc := 33) C dX10_type_33 rfl ?_
  refine hz_getP (pc := 34) C (v := 2) ffX10_10 dX10_type_34 hT1 hA1 rfl (hP1_0 q) (by decide) ?_
  refine hz_iload_n (pc := 37) C dX10_type_37 rfl ?_
  refine hz_i2c (pc := 38) C (v := nI c) dX10_type_38 (i2c_n (by omega)) ?_
  refine hz_callVv (pc := 39) C (as := [.int (nI c)]) (st := []) (ev_textAdd ht h150 hc) (hz_new0 _ _) fyX8_add fvX10_87 rfl dX10_type_39 hT2 rfl rfl hA2 rfl rfl (Nat.le_of_ble_eq_true rfl) (by decide) (hz_cap0 _) ?_
  refine hz_aload_n (pc := 42) C dX10_type_42 rfl ?_
  refine hz_getP (pc := 43) C (v := 2) ffX10_10 dX10_type_43 hT1 hA1 rfl (hP1_0 q) (by decide) ?_
  refine hz_getI (pc := 46) C (v := nI (t + 1)) ffX10_84 dX10_type_46 hT2 hA2 rfl rfl ?_
  exact hz_iret C Z rfl dX10_type_49 rfl rfl
set_option maxHeartbeats 4000000 in
set_option maxRecDepth 100000 in
theorem ev_typeM {I : Nat → Nat → Int32} {L : Nat → Nat → Int64} {q : Nat → Nat → Nat} {t c : Nat} (ht : I 146 7 = nI t) (h150 : t < 150) (hc : c < 128) : hz_Ev mX11_type TT NN (I, L, PP q) [.ref 146, .int (nI c)] 0 0 (some (.int (nI (t + 1)))) TT NN (hz_up (hz_up I 152 t (nI c)) 146 7 (nI (t + 1)), L, PP q) := by
  refine hz_Ev.intro (ls := [some (.ref 146), some (.int (nI c))]) (by decide +kernel) rfl (Nat.le_of_ble_eq_true rfl) (fun X C Z _ => ?_)
  refine hz_iload_n (pc := 0) C dX11_type_0 rfl ?_
  refine hz_iconst (pc := 1) C (v := nI 0) dX11_type_1 (by decide +kernel) ?_
  refine hz_bipush (pc := 2) C (v := nI 127) dX11_type_2 (by decide +kernel) ?_
  refine hz_callSs (pc := 4) C (as := [.int (nI c), .int (nI 0), .int (nI 127)]) (st := []) (ev_in _ (nI c) (nI 0) (nI 127)) (hz_new0 _ _) fyX11_in fsX11_52 rfl dX11_type_4 rfl rfl (Nat.le_of_ble_eq_true rfl) (by decide) (hz_cap0 _) ?_
  refine hz_ifb_ne (pc := 7) C (tgt := 15) dX11_type_7 rfl (fun _ => ?_) (fun cq => absurd (vin (Nat.zero_le _) (show c ≤ 127 by omega) (by decide)) cq)
  refine hz_aload_n (pc := 15) C dX11_type_15 rfl ?_
  refine hz_getI (pc := 16) C (v := nI t) ffX11_71 dX11_type_16 hT146 hA146 rfl ht ?_
  refine hz_sipush (pc := 19) C (v := nI 150) dX11_type_19 (by decide +kernel) ?_
  refine hz_ic_ne (pc := 22) C (tgt := 30) dX11_type_22 rfl (fun _ => ?_) (fun cq => absurd ((nI_eq (by omega) (by omega)).mp cq) (by omega))
  refine hz_aload_n (pc := 30) C dX11_type_30 rfl ?_
  refine hz_getP (pc := 31) C (v := 152) ffX11_30 dX11_type_31 hT146 hA146 rfl (hP146_8 q) (by decide) ?_
  refine hz_aload_n (pc := 34) C dX11_type_34 rfl ?_
  refine hz_getI (pc := 35) C (v := nI t) ffX11_71 dX11_type_35 hT146 hA146 rfl ht ?_
  refine hz_iload_n (pc := 38) C dX11_type_38 rfl ?_
  refine hz_iast (pc := 39) C (v := nI c) (j := t) (M' := (hz_up I 152 t (nI c), L, PP q)) dX11_type_39 hT152 hA152 rfl (by omega) (by decide) rfl rfl ?_
  refine hz_aload_n (pc := 40) C dX11_type_40 rfl ?_
  refine hz_dup (pc := 41) C dX11_type_41 rfl ?_
  refine hz_getI (pc := 42) C (v := nI t) ffX11_71 dX11_type_42 hT146 hA146 rfl (by simp (disch := omega) only [hz_up_ne]; exact ht) ?_
  refine hz_iconst (pc := 45) C (v := nI 1) dX11_type_45 (by decide +kernel) ?_
  refine hz_iadd (pc := 46) C (v := nI (t + 1)) dX11_type_46 (nI_add _ _) ?_
  refine hz_putI (pc := 47) C (M' := (hz_up (hz_up I 152 t (nI c)) 146 7 (nI (t + 1)), L, PP q)) ffX11_71 dX11_type_47 hT146 hA146 rfl rfl ⟨rfl, rfl⟩ rfl ?_
  refine hz_aload_n (pc := 50) C dX11_type_50 rfl ?_
  refine hz_getI (pc := 51) C (v := nI (t + 1)) ffX11_71 dX11_type_51 hT146 hA146 rfl rfl ?_
  exact hz_iret C Z rfl dX11_type_54 rfl rfl
set_option maxHeartbeats 4000000 in
set_option maxRecDepth 100000 in
theorem ev_typeF {I : Nat → Nat → Int32} {L : Nat → Nat → Int64} {q : Nat → Nat → Nat} {t c : Nat} (ht : I 2 1 = nI t) (h150 : t = 150) (hc : c < 128) : hz_Ev mX10_type TT NN (I, L, PP q) [.ref 1, .int (nI c)] 0 0 (some (.int (-4 : Int32))) TT NN (hz_up I 1 10 ((I 1 10) + (nI 1)), L, PP q) := by
  refine hz_Ev.intro (ls := [some (.ref 1), some (.int (nI c))]) (by decide +kernel) rfl (Nat.le_of_ble_eq_true rfl) (fun X C Z _ => ?_)
  refine hz_iload_n (pc := 0) C dX10_type_0 rfl ?_
  refine hz_iconst (pc := 1) C (v := nI 0) dX10_type_1 (by decide +kernel) ?_
  refine hz_bipush (pc := 2) C (v := nI 127) dX10_type_2 (by decide +kernel) ?_
  refine hz_callSs (pc := 4) C (as := [.int (nI c), .int (nI 0), .int (nI 127)]) (st := []) (ev_within _ (nI c) (nI 0) (nI 127)) (hz_new0 _ _) fyX10_within fsX10_59 rfl dX10_type_4 rfl rfl (Nat.le_of_ble_eq_true rfl) (by decide) (hz_cap0 _) ?_
  refine hz_ifb_ne (pc := 7) C (tgt := 15) dX10_type_7 rfl (fun _ => ?_) (fun cq => absurd (vin (Nat.zero_le _) (show c ≤ 127 by omega) (by decide)) cq)
  refine hz_aload_n (pc := 15) C dX10_type_15 rfl ?_
  refine hz_getP (pc := 16) C (v := 2) ffX10_10 dX10_type_16 hT1 hA1 rfl (hP1_0 q) (by decide) ?_
  refine hz_getI (pc := 19) C (v := nI t) ffX10_84 dX10_type_19 hT2 hA2 rfl ht ?_
  refine hz_sipush (pc := 22) C (v := nI 150) dX10_type_22 (by decide +kernel) ?_
  refine hz_ic_lt (pc := 25) C (tgt := 33) dX10_type_25 rfl (fun cq => absurd cq (nI_nlt (by omega) (by omega))) (fun _ => ?_)
  refine hz_aload_n (pc := 28) C dX10_type_28 rfl ?_
  refine hz_callVs (pc := 29) C (as := []) (st := []) ev_refFull (hz_new0 _ _) fyX10_refuseFull fvX10_78 rfl dX10_type_29 hT1 rfl rfl hA1 rfl rfl (Nat.le_of_ble_eq_true rfl) (by decide) (hz_cap0 _) ?_
  exact hz_iret C Z rfl dX10_type_32 rfl rfl
set_option maxHeartbeats 4000000 in
set_option maxRecDepth 100000 in
theorem ev_typeFM {I : Nat → Nat → Int32} {L : Nat → Nat → Int64} {q : Nat → Nat → Nat} {t c : Nat} (ht : I 146 7 = nI t) (h150 : t = 150) (hc : c < 128) : hz_Ev mX11_type TT NN (I, L, PP q) [.ref 146, .int (nI c)] 0 0 (some (.int (-4 : Int32))) TT NN (hz_up I 151 2 ((I 151 2) + (nI 1)), L, PP q) := by
  refine hz_Ev.intro (ls := [some (.ref 146), some (.int (nI c))]) (by decide +kernel) rfl (Nat.le_of_ble_eq_true rfl) (fun X C Z _ => ?_)
  refine hz_iload_n (pc := 0) C dX11_type_0 rfl ?_
  refine hz_iconst (pc := 1) C (v := nI 0) dX11_type_1 (by decide +kernel) ?_
  refine hz_bipush (pc := 2) C (v := nI 127) dX11_type_2 (by decide +kernel) ?_
  refine hz_callSs (pc := 4) C (as := [.int (nI c), .int (nI 0), .int (nI 127)]) (st := []) (ev_in _ (nI c) (nI 0) (nI 127)) (hz_new0 _ _) fyX11_in fsX11_52 rfl dX11_type_4 rfl rfl (Nat.le_of_ble_eq_true rfl) (by decide) (hz_cap0 _) ?_
  refine hz_ifb_ne (pc := 7) C (tgt := 15) dX11_type_7 rfl (fun _ => ?_) (fun cq => absurd (vin (Nat.zero_le _) (show c ≤ 127 by omega) (by decide)) cq)
  refine hz_aload_n (pc := 15) C dX11_type_15 rfl ?_
  refine hz_getI (pc := 16) C (v := nI t) ffX11_71 dX11_type_16 hT146 hA146 rfl ht ?_
  refine hz_sipush (pc := 19) C (v := nI 150) dX11_type_19 (by decide +kernel) ?_
  refine hz_ic_ne (pc := 22) C (tgt := 30) dX11_type_22 rfl (fun cq => absurd ((nI_eq (by omega) (by omega)).mpr (by omega)) cq) (fun _ => ?_)
  refine hz_aload_n (pc := 25) C dX11_type_25 rfl ?_
  refine hz_callVs (pc := 26) C (as := []) (st := []) ev_full (hz_new0 _ _) fyX11_full fvX11_64 rfl dX11_type_26 hT146 rfl rfl hA146 rfl rfl (Nat.le_of_ble_eq_true rfl) (by decide) (hz_cap0 _) ?_
  exact hz_iret C Z rfl dX11_type_29 rfl rfl
set_option maxHeartbeats 4000000 in
set_option maxRecDepth 100000 in
theorem ev_clear {I : Nat → Nat → Int32} {L : Nat → Nat → Int64} {q : Nat → Nat → Nat} : hz_Ev mX10_clear TT NN (I, L, PP q) [.ref 1] 0 0 (some (.int (I 2 1))) TT NN (hz_up I 2 1 (nI 0), L, PP q) := by
  refine hz_Ev.intro (ls := [some (.ref 1), none]) (by decide +kernel) rfl (Nat.le_of_ble_eq_true rfl) (fun X C Z _ => ?_)
  refine hz_aload_n (pc := 0) C dX10_clear_0 rfl ?_
  refine hz_getP (pc := 1) C (v := 2) ffX10_10 dX10_clear_1 hT1 hA1 rfl (hP1_0 q) (by decide) ?_
  refine hz_getI (pc := 4) C (v := I 2 1) ffX10_84 dX10_clear_4 hT2 hA2 rfl rfl ?_
  refine hz_istore_n (pc := 7) C (ls' := [some (.ref 1), some (.int (I 2 1))]) dX10_clear_7 (Nat.le_of_ble_eq_true rfl) rfl ?_
  refine hz_aload_n (pc := 8) C dX10_clear_8 rfl ?_
  refine hz_getP (pc := 9) C (v := 2) ffX10_10 dX10_clear_9 hT1 hA1 rfl (hP1_0 q) (by decide) ?_
  refine hz_iconst (pc := 12) C (v := nI 0) dX10_clear_12 (by decide +kernel) ?_
  refine hz_putI (pc := 13) C (M' := (hz_up I 2 1 (nI 0), L, PP q)) ffX10_84 dX10_clear_13 hT2 hA2 rfl rfl ⟨rfl, rfl⟩ rfl ?_
  refine hz_iload_n (pc := 16) C dX10_clear_16 rfl ?_
  exact hz_iret C Z rfl dX10_clear_17 rfl rfl
set_option maxHeartbeats 4000000 in
set_option maxRecDepth 100000 in
theorem ev_clearM {I : Nat → Nat → Int32} {L : Nat → Nat → Int64} {q : Nat → Nat → Nat} : hz_Ev mX11_clear TT NN (I, L, PP q) [.ref 146] 0 0 (some (.int (I 146 7))) TT NN (hz_up I 146 7 (nI 0), L, PP q) := by
  refine hz_Ev.intro (ls := [some (.ref 146), none]) (by decide +kernel) rfl (Nat.le_of_ble_eq_true rfl) (fun X C Z _ => ?_)
  refine hz_aload_n (pc := 0) C dX11_clear_0 rfl ?_
  refine hz_getI (pc := 1) C (v := I 146 7) ffX11_71 dX11_clear_1 hT146 hA146 rfl rfl ?_
  refine hz_istore_n (pc := 4) C (ls' := [some (.ref 146), some (.int (I 146 7))]) dX11_clear_4 (Nat.le_of_ble_eq_true rfl) rfl ?_
  refine hz_aload_n (pc := 5) C dX11_clear_5 rfl ?_
  refine hz_iconst (pc := 6) C (v := nI 0) dX11_clear_6 (by decide +kernel) ?_
  refine hz_putI (pc := 7) C (M' := (hz_up I 146 7 (nI 0), L, PP q)) ffX11_71 dX11_clear_7 hT146 hA146 rfl rfl ⟨rfl, rfl⟩ rfl ?_
  refine hz_iload_n (pc := 10) C dX11_clear_10 rfl ?_
  exact hz_iret C Z rfl dX11_clear_11 rfl rfl

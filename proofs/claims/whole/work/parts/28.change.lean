set_option maxHeartbeats 4000000 in
set_option maxRecDepth 100000 in
theorem ev_setDown {m : Nat} {I : Nat → Nat → Int32} {L : Nat → Nat → Int64} {q : Nat → Nat → Nat} (hm : TT m = (3, 5)) (ham : m ≠ 0 ∧ m ≤ NN) (k d : Int32) : hz_Ev mX3_setDown TT NN (I, L, PP q) [.ref m, .int k, .int d] 0 0 none TT NN (hz_up I m 4 (((I m 4) &&& (((nI 1) <<< (k &&& 31)) ^^^ (-1 : Int32))) ||| (d <<< (k &&& 31))), L, PP q) := by
  refine hz_Ev.intro (ls := [some (.ref m), some (.int k), some (.int d)]) (by decide +kernel) rfl (Nat.le_of_ble_eq_true rfl) (fun X C Z _ => ?_)
  refine hz_aload_n (pc := 0) C dX3_setDown_0 rfl ?_
  refine hz_aload_n (pc := 1) C dX3_setDown_1 rfl ?_
  refine hz_getI (pc := 2) C (v := I m 4) ffX3_31 dX3_setDown_2 hm ham rfl rfl ?_
  refine hz_iconst (pc := 5) C (v := nI 1) dX3_setDown_5 (by decide +kernel) ?_
  refine hz_iload_n (pc := 6) C dX3_setDown_6 rfl ?_
  refine hz_ishl (pc := 7) C dX3_setDown_7 rfl ?_
  refine hz_iconst (pc := 8) C (v := (-1 : Int32)) dX3_setDown_8 (by decide +kernel) ?_
  refine hz_ixor (pc := 9) C dX3_setDown_9 rfl ?_
  refine hz_iand (pc := 10) C dX3_setDown_10 rfl ?_
  refine hz_iload_n (pc := 11) C dX3_setDown_11 rfl ?_
  refine hz_iload_n (pc := 12) C dX3_setDown_12 rfl ?_
  refine hz_ishl (pc := 13) C dX3_setDown_13 rfl ?_
  refine hz_ior (pc := 14) C dX3_setDown_14 rfl ?_
  refine hz_putI (pc := 15) C (M' := (hz_up I m 4 (((I m 4) &&& (((nI 1) <<< (k &&& 31)) ^^^ (-1 : Int32))) ||| (d <<< (k &&& 31))), L, PP q)) ffX3_31 dX3_setDown_15 hm ham rfl rfl ⟨rfl, rfl⟩ rfl ?_
  exact hz_vret C Z rfl dX3_setDown_18 rfl
def cpy (I : Nat → Nat → Int32) (a0 a n : Nat) : Nat → Nat → Int32 := fun b => if b = a then va_cpy (I a0) (I a) 0 0 n else I b
set_option maxHeartbeats 4000000 in
set_option maxRecDepth 100000 in
theorem ev_momCopy {m o : Nat} {I : Nat → Nat → Int32} {L : Nat → Nat → Int64} {q : Nat → Nat → Nat} (hmo : ¬ o = m) (hm : TT m = (3, 5)) (ham : m ≠ 0 ∧ m ≤ NN) (hm1 : TT (m + 1) = (13, 6)) (ham1 : m + 1 ≠ 0 ∧ m + 1 ≤ NN) (hpm : PP q m 0 = m + 1) (ho : TT o = (3, 5)) (hao : o ≠ 0 ∧ o ≤ NN) (ho1 : TT (o + 1) = (13, 6)) (hao1 : o + 1 ≠ 0 ∧ o + 1 ≤ NN) (hpo : PP q o 0 = o + 1) : hz_Ev mX3_copyFrom TT NN (I, L, PP q) [.ref m, .ref o] 0 0 none TT NN (hz_up (hz_up (hz_up (hz_up (cpy I (o + 1) (m + 1) 6) m 1 (cpy I (o + 1) (m + 1) 6 o 1)) m 2 (cpy I (o + 1) (m + 1) 6 o 2)) m 3 (cpy I (o + 1) (m + 1) 6 o 3)) m 4 (cpy I (o + 1) (m + 1) 6 o 4), L, PP q) := by
  refine hz_Ev.intro (ls := [some (.ref m), some (.ref o)]) (by decide +kernel) rfl (Nat.le_of_ble_eq_true rfl) (fun X C Z _ => ?_)
  refine hz_aload_n (pc := 0) C dX3_copyFrom_0 rfl ?_
  refine hz_getP (pc := 1) C (v := o + 1) ffX3_9 dX3_copyFrom_1 ho hao rfl hpo (by omega) ?_
  refine hz_iconst (pc := 4) C (v := nI 0) dX3_copyFrom_4 (by decide +kernel) ?_
  refine hz_aload_n (pc := 5) C dX3_copyFrom_5 rfl ?_
  refine hz_getP (pc := 6) C (v := m + 1) ffX3_9 dX3_copyFrom_6 hm ham rfl hpm (by omega) ?_
  refine hz_iconst (pc := 9) C (v := nI 0) dX3_copyFrom_9 (by decide +kernel) ?_
  refine hz_bipush (pc := 10) C (v := nI 6) dX3_copyFrom_10 (by decide +kernel) ?_
  refine hz_cpy (pc := 12) C (sp := 0) (dp := 0) (len := 6) fcX3_15 rfl ho1 hao1 hm1 ham1 rfl rfl rfl ⟨by decide, by decide, by decide⟩ (by decide) (by decide) dX3_copyFrom_12 (Nat.le_of_ble_eq_true rfl) (by decide) rfl ?_
  refine hz_aload_n (pc := 15) C dX3_copyFrom_15 rfl ?_
  refine hz_aload_n (pc := 16) C dX3_copyFrom_16 rfl ?_
  refine hz_getI (pc := 17) C (v := cpy I (o + 1) (m + 1) 6 o 1) ffX3_21 dX3_copyFrom_17 ho hao rfl rfl ?_
  refine hz_putI (pc := 20) C (M' := (hz_up (cpy I (o + 1) (m + 1) 6) m 1 (cpy I (o + 1) (m + 1) 6 o 1), L, PP q)) ffX3_21 dX3_copyFrom_20 hm ham rfl rfl ⟨rfl, rfl⟩ rfl ?_
  refine hz_aload_n (pc := 23) C dX3_copyFrom_23 rfl ?_
  refine hz_aload_n (pc := 24) C dX3_copyFrom_24 rfl ?_
  refine hz_getI (pc := 25) C (v := cpy I (o + 1) (m + 1) 6 o 2) ffX3_25 dX3_copyFrom_25 ho hao rfl (by simp [hz_up, hmo]) ?_
  refine hz_putI (pc := 28) C (M' := (hz_up (hz_up (cpy I (o + 1) (m + 1) 6) m 1 (cpy I (o + 1) (m + 1) 6 o 1)) m 2 (cpy I (o + 1) (m + 1) 6 o 2), L, PP q)) ffX3_25 dX3_copyFrom_28 hm ham rfl rfl ⟨rfl, rfl⟩ rfl ?_
  refine hz_aload_n (pc := 31) C dX3_copyFrom_31 rfl ?_
  refine hz_aload_n (pc := 32) C dX3_copyFrom_32 rfl ?_
  refine hz_getI (pc := 33) C (v := cpy I (o + 1) (m + 1) 6 o 3) ffX3_28 dX3_copyFrom_33 ho hao rfl (by simp [hz_up, hmo]) ?_
  refine hz_putI (pc := 36) C (M' := (hz_up (hz_up (hz_up (cpy I (o + 1) (m + 1) 6) m 1 (cpy I (o + 1) (m + 1) 6 o 1)) m 2 (cpy I (o + 1) (m + 1) 6 o 2)) m 3 (cpy I (o + 1) (m + 1) 6 o 3), L, PP q)) ffX3_28 dX3_copyFrom_36 hm ham rfl rfl ⟨rfl, rfl⟩ rfl ?_
  refine hz_aload_n (pc := 39) C dX3_copyFrom_39 rfl ?_
  refine hz_aload_n (pc := 40) C dX3_copyFrom_40 rfl ?_
  refine hz_getI (pc := 41) C (v := cpy I (o + 1) (m + 1) 6 o 4) ffX3_31 dX3_copyFrom_41 ho hao rfl (by simp [hz_up, hmo]) ?_
  refine hz_putI (pc := 44) C (M' := (hz_up (hz_up (hz_up (hz_up (cpy I (o + 1) (m + 1) 6) m 1 (cpy I (o + 1) (m + 1) 6 o 1)) m 2 (cpy I (o + 1) (m + 1) 6 o 2)) m 3 (cpy I (o + 1) (m + 1) 6 o 3)) m 4 (cpy I (o + 1) (m + 1) 6 o 4), L, PP q)) ffX3_31 dX3_copyFrom_44 hm ham rfl rfl ⟨rfl, rfl⟩ rfl ?_
  exact hz_vret C Z rfl dX3_copyFrom_47 rfl
set_option maxHeartbeats 4000000 in
set_option maxRecDepth 100000 in
theorem ev_pass {I : Nat → Nat → Int32} {L : Nat → Nat → Int64} {q : Nat → Nat → Nat} (n : Int32) : hz_Ev mX2_pass TT NN (I, L, PP q) [.ref 12, .int n] 0 0 none TT NN (hz_up I 19 1 (if (I 19 1) + n < nI 9999 then (I 19 1) + n else nI 9999), L, PP q) := by
  refine hz_Ev.intro (ls := [some (.ref 12), some (.int n)]) (by decide +kernel) rfl (Nat.le_of_ble_eq_true rfl) (fun X C Z _ => ?_)
  refine hz_aload_n (pc := 0) C dX2_pass_0 rfl ?_
  refine hz_getP (pc := 1) C (v := 19) ffX2_33 dX2_pass_1 hT12 hA12 rfl (hP12_7 q) (by decide) ?_
  refine hz_sipush (pc := 4) C (v := nI 9999) dX2_pass_4 (by decide +kernel) ?_
  refine hz_aload_n (pc := 7) C dX2_pass_7 rfl ?_
  refine hz_getP (pc := 8) C (v := 19) ffX2_33 dX2_pass_8 hT12 hA12 rfl (hP12_7 q) (by decide) ?_
  refine hz_getI (pc := 11) C (v := I 19 1) ffX2_80 dX2_pass_11 hT19 hA19 rfl rfl ?_
  refine hz_iload_n (pc := 14) C dX2_pass_14 rfl ?_
  refine hz_iadd (pc := 15) C dX2_pass_15 rfl ?_
  refine hz_mmin (pc := 16) C fsX2_105 rfl dX2_pass_16 (Nat.le_of_ble_eq_true rfl) (by decide) (And.intro (Nat.zero_le _) (Nat.zero_le _)) ?_
  refine hz_putI (pc := 19) C (M' := (hz_up I 19 1 (if (I 19 1) + n < nI 9999 then (I 19 1) + n else nI 9999), L, PP q)) ffX2_80 dX2_pass_19 hT19 hA19 rfl rfl ⟨rfl, rfl⟩ rfl ?_
  exact hz_vret C Z rfl dX2_pass_22 rfl
set_option maxHeartbeats 4000000 in
set_option maxRecDepth 100000 in
theorem ev_allBits {I : Nat → Nat → Int32} {L : Nat → Nat → Int64} {q : Nat → Nat → Nat} : hz_Ev mX2_allBits TT NN (I, L, PP q) [.ref 12] 0 0 (some (.int (((nI 1) <<< ((I 12 10) &&& 31)) - (nI 1)))) TT NN (I, L, PP q) := by
  refine hz_Ev.intro (ls := [some (.ref 12)]) (by decide +kernel) rfl (Nat.le_of_ble_eq_true rfl) (fun X C Z _ => ?_)
  refine hz_iconst (pc := 0) C (v := nI 1) dX2_allBits_0 (by decide +kernel) ?_
  refine hz_aload_n (pc := 1) C dX2_allBits_1 rfl ?_
  refine hz_getI (pc := 2) C (v := I 12 10) ffX2_70 dX2_allBits_2 hT12 hA12 rfl rfl ?_
  refine hz_ishl (pc := 5) C dX2_allBits_5 rfl ?_
  refine hz_iconst (pc := 6) C (v := nI 1) dX2_allBits_6 (by decide +kernel) ?_
  refine hz_isub (pc := 7) C dX2_allBits_7 rfl ?_
  exact hz_iret C Z rfl dX2_allBits_8 rfl rfl
set_option maxHeartbeats 4000000 in
set_option maxRecDepth 100000 in
theorem ev_setDoor {I : Nat → Nat → Int32} {L : Nat → Nat → Int64} {q : Nat → Nat → Nat} {a b : Nat} (ha : a < 8) (hb : b < 8) (l : Int32) : hz_Ev mX2_setDoor TT NN (I, L, PP q) [.ref 12, .int (nI a), .int (nI b), .int l] 0 0 none TT NN (hz_up (hz_up (hz_up I 13 ((a * 8) + b) l) 13 ((b * 8) + a) l) 12 9 (nI 0), L, PP q) := by
  refine hz_Ev.intro (ls := [some (.ref 12), some (.int (nI a)), some (.int (nI b)), some (.int l)]) (by decide +kernel) rfl (Nat.le_of_ble_eq_true rfl) (fun X C Z _ => ?_)
  refine hz_aload_n (pc := 0) C dX2_setDoor_0 rfl ?_
  refine hz_getP (pc := 1) C (v := 13) ffX2_9 dX2_setDoor_1 hT12 hA12 rfl (hP12_1 q) (by decide) ?_
  refine hz_iload_n (pc := 4) C dX2_setDoor_4 rfl ?_
  refine hz_bipush (pc := 5) C (v := nI 8) dX2_setDoor_5 (by decide +kernel) ?_
  refine hz_imul (pc := 7) C (v := nI (a * 8)) dX2_setDoor_7 (pk_mul _ _) ?_
  refine hz_iload_n (pc := 8) C dX2_setDoor_8 rfl ?_
  refine hz_iadd (pc := 9) C (v := nI ((a * 8) + b)) dX2_setDoor_9 (nI_add _ _) ?_
  refine hz_iload_n (pc := 10) C dX2_setDoor_10 rfl ?_
  refine hz_iast (pc := 11) C (v := l) (j := (a * 8) + b) (M' := (hz_up I 13 ((a * 8) + b) l, L, PP q)) dX2_setDoor_11 hT13 hA13 rfl (by omega) (by decide) rfl rfl ?_
  refine hz_aload_n (pc := 12) C dX2_setDoor_12 rfl ?_
  refine hz_getP (pc := 13) C (v := 13) ffX2_9 dX2_setDoor_13 hT12 hA12 rfl (hP12_1 q) (by decide) ?_
  refine hz_iload_n (pc := 16) C dX2_setDoor_16 rfl ?_
  refine hz_bipush (pc := 17) C (v := nI 8) dX2_setDoor_17 (by decide +kernel) ?_
  refine hz_imul (pc := 19) C (v := nI (b * 8)) dX2_setDoor_19 (pk_mul _ _) ?_
  refine hz_iload_n (pc := 20) C dX2_setDoor_20 rfl ?_
  refine hz_iadd (pc := 21) C (v := nI ((b * 8) + a)) dX2_setDoor_21 (nI_add _ _) ?_
  refine hz_iload_n (pc := 22) C dX2_setDoor_22 rfl ?_
  refine hz_iast (pc := 23) C (v := l) (j := (b * 8) + a) (M' := (hz_up (hz_up I 13 ((a * 8) + b) l) 13 ((b * 8) + a) l, L, PP q)) dX2_setDoor_23 hT13 hA13 rfl (by omega) (by decide) rfl rfl ?_
  refine hz_aload_n (pc := 24) C dX2_setDoor_24 rfl ?_
  refine hz_iconst (pc := 25) C (v := nI 0) dX2_setDoor_25 (by decide +kernel) ?_
  refine hz_putI (pc := 26) C (M' := (hz_up (hz_up (hz_up I 13 ((a * 8) + b) l) 13 ((b * 8) + a) l) 12 9 (nI 0), L, PP q)) ffX2_66 dX2_setDoor_26 hT12 hA12 rfl rfl ⟨by decide +kernel, by decide +kernel⟩ rfl ?_
  exact hz_vret C Z rfl dX2_setDoor_29 rfl
set_option maxHeartbeats 4000000 in
set_option maxRecDepth 100000 in
theorem ev_addAlarm {I : Nat → Nat → Int32} {L : Nat → Nat → Int64} {q : Nat → Nat → Nat} {al : Nat} (hal : I 12 10 = nI al) (hal6 : al < 6) (kd rm ba : Int32) : hz_Ev mX2_addAlarm TT NN (I, L, PP q) [.ref 12, .int kd, .int rm, .int ba] 0 0 none TT NN (hz_up (hz_up (hz_up (hz_up (hz_up I 15 al kd) 16 al rm) 20 al ba) 12 10 (nI (al + 1))) 12 12 (nI 0), L, PP q) := by
  refine hz_Ev.intro (ls := [some (.ref 12), some (.int kd), some (.int rm), some (.int ba)]) (by decide +kernel) rfl (Nat.le_of_ble_eq_true rfl) (fun X C Z _ => ?_)
  refine hz_aload_n (pc := 0) C dX2_addAlarm_0 rfl ?_
  refine hz_getP (pc := 1) C (v := 15) ffX2_18 dX2_addAlarm_1 hT12 hA12 rfl (hP12_3 q) (by decide) ?_
  refine hz_aload_n (pc := 4) C dX2_addAlarm_4 rfl ?_
  refine hz_getI (pc := 5) C (v := nI al) ffX2_70 dX2_addAlarm_5 hT12 hA12 rfl hal ?_
  refine hz_iload_n (pc := 8) C dX2_addAlarm_8 rfl ?_
  refine hz_iast (pc := 9) C (v := kd) (j := al) (M' := (hz_up I 15 al kd, L, PP q)) dX2_addAlarm_9 hT15 hA15 rfl (by omega) (by decide) rfl rfl ?_
  refine hz_aload_n (pc := 10) C dX2_addAlarm_10 rfl ?_
  refine hz_getP (pc := 11) C (v := 16) ffX2_21 dX2_addAlarm_11 hT12 hA12 rfl (hP12_4 q) (by decide) ?_
  refine hz_aload_n (pc := 14) C dX2_addAlarm_14 rfl ?_
  refine hz_getI (pc := 15) C (v := nI al) ffX2_70 dX2_addAlarm_15 hT12 hA12 rfl hal ?_
  refine hz_iload_n (pc := 18) C dX2_addAlarm_18 rfl ?_
  refine hz_iast (pc := 19) C (v := rm) (j := al) (M' := (hz_up (hz_up I 15 al kd) 16 al rm, L, PP q)) dX2_addAlarm_19 hT16 hA16 rfl (by omega) (by decide) rfl rfl ?_
  refine hz_aload_n (pc := 20) C dX2_addAlarm_20 rfl ?_
  refine hz_getP (pc := 21) C (v := 19) ffX2_33 dX2_addAlarm_21 hT12 hA12 rfl (hP12_7 q) (by decide) ?_
  refine hz_getP (pc := 24) C (v := 20) ffX2_102 dX2_addAlarm_24 hT19 hA19 rfl (hP19_0 q) (by decide) ?_
  refine hz_aload_n (pc := 27) C dX2_addAlarm_27 rfl ?_
  refine hz_getI (pc := 28) C (v := nI al) ffX2_70 dX2_addAlarm_28 hT12 hA12 rfl hal ?_
  refine hz_iload_n (pc := 31) C dX2_addAlarm_31 rfl ?_
  refine hz_iast (pc := 32) C (v := ba) (j := al) (M' := (hz_up (hz_up (hz_up I 15 al kd) 16 al rm) 20 al ba, L, PP q)) dX2_addAlarm_32 hT20 hA20 rfl (by omega) (by decide) rfl rfl ?_
  refine hz_aload_n (pc := 33) C dX2_addAlarm_33 rfl ?_
  refine hz_dup (pc := 34) C dX2_addAlarm_34 rfl ?_
  refine hz_getI (pc := 35) C (v := nI al) ffX2_70 dX2_addAlarm_35 hT12 hA12 rfl hal ?_
  refine hz_iconst (pc := 38) C (v := nI 1) dX2_addAlarm_38 (by decide +kernel) ?_
  refine hz_iadd (pc := 39) C (v := nI (al + 1)) dX2_addAlarm_39 (nI_add _ _) ?_
  refine hz_putI (pc := 40) C (M' := (hz_up (hz_up (hz_up (hz_up I 15 al kd) 16 al rm) 20 al ba) 12 10 (nI (al + 1)), L, PP q)) ffX2_70 dX2_addAlarm_40 hT12 hA12 rfl rfl ⟨rfl, rfl⟩ rfl ?_
  refine hz_aload_n (pc := 43) C dX2_addAlarm_43 rfl ?_
  refine hz_iconst (pc := 44) C (v := nI 0) dX2_addAlarm_44 (by decide +kernel) ?_
  refine hz_putI (pc := 45) C (M' := (hz_up (hz_up (hz_up (hz_up (hz_up I 15 al kd) 16 al rm) 20 al ba) 12 10 (nI (al + 1))) 12 12 (nI 0), L, PP q)) ffX2_77 dX2_addAlarm_45 hT12 hA12 rfl rfl ⟨rfl, rfl⟩ rfl ?_
  exact hz_vret C Z rfl dX2_addAlarm_48 rfl
set_option maxHeartbeats 4000000 in
set_option maxRecDepth 100000 in
theorem ev_setDoorD {I : Nat → Nat → Int32} {L : Nat → Nat → Int64} {q : Nat → Nat → Nat} {a b : Nat} (ha : a < 8) (hb : b < 8) (l : Int32) : hz_Ev mX2_setDoor TT NN (I, L, PP q) [.ref 45, .int (nI a), .int (nI b), .int l] 0 0 none TT NN (hz_up (hz_up (hz_up I 46 ((a * 8) + b) l) 46 ((b * 8) + a) l) 45 9 (nI 0), L, PP q) := by
  refine hz_Ev.intro (ls := [some (.ref 45), some (.int (nI a)), some (.int (nI b)), some (.int l)]) (by decide +kernel) rfl (Nat.le_of_ble_eq_true rfl) (fun X C Z _ => ?_)
  refine hz_aload_n (pc := 0) C dX2_setDoor_0 rfl ?_
  refine hz_getP (pc := 1) C (v := 46) ffX2_9 dX2_setDoor_1 hT45 hA45 rfl (hP45_1 q) (by decide) ?_
  refine hz_iload_n (pc := 4) C dX2_setDoor_4 rfl ?_
  refine hz_bipush (pc := 5) C (v := nI 8) dX2_setDoor_5 (by decide +kernel) ?_
  refine hz_imul (pc := 7) C (v := nI (a * 8)) dX2_setDoor_7 (pk_mul _ _) ?_
  refine hz_iload_n (pc := 8) C dX2_setDoor_8 rfl ?_
  refine hz_iadd (pc := 9) C (v := nI ((a * 8) + b)) dX2_setDoor_9 (nI_add _ _) ?_
  refine hz_iload_n (pc := 10) C dX2_setDoor_10 rfl ?_
  refine hz_iast (pc := 11) C (v := l) (j := (a * 8) + b) (M' := (hz_up I 46 ((a * 8) + b) l, L, PP q)) dX2_setDoor_11 hT46 hA46 rfl (by omega) (by decide) rfl rfl ?_
  refine hz_aload_n (pc := 12) C dX2_setDoor_12 rfl ?_
  refine hz_getP (pc := 13) C (v := 46) ffX2_9 dX2_setDoor_13 hT45 hA45 rfl (hP45_1 q) (by decide) ?_
  refine hz_iload_n (pc := 16) C dX2_setDoor_16 rfl ?_
  refine hz_bipush (pc := 17) C (v := nI 8) dX2_setDoor_17 (by decide +kernel) ?_
  refine hz_imul (pc := 19) C (v := nI (b * 8)) dX2_setDoor_19 (pk_mul _ _) ?_
  refine hz_iload_n (pc := 20) C dX2_setDoor_20 rfl ?_
  refine hz_iadd (pc := 21) C (v := nI ((b * 8) + a)) dX2_setDoor_21 (nI_add _ _) ?_
  refine hz_iload_n (pc := 22) C dX2_setDoor_22 rfl ?_
  refine hz_iast (pc := 23) C (v := l) (j := (b * 8) + a) (M' := (hz_up (hz_up I 46 ((a * 8) + b) l) 46 ((b * 8) + a) l, L, PP q)) dX2_setDoor_23 hT46 hA46 rfl (by omega) (by decide) rfl rfl ?_
  refine hz_aload_n (pc := 24) C dX2_setDoor_24 rfl ?_
  refine hz_iconst (pc := 25) C (v := nI 0) dX2_setDoor_25 (by decide +kernel) ?_
  refine hz_putI (pc := 26) C (M' := (hz_up (hz_up (hz_up I 46 ((a * 8) + b) l) 46 ((b * 8) + a) l) 45 9 (nI 0), L, PP q)) ffX2_66 dX2_setDoor_26 hT45 hA45 rfl rfl ⟨by decide +kernel, by decide +kernel⟩ rfl ?_
  exact hz_vret C Z rfl dX2_setDoor_29 rfl
set_option maxHeartbeats 4000000 in
set_option maxRecDepth 100000 in
theorem ev_addAlarmD {I : Nat → Nat → Int32} {L : Nat → Nat → Int64} {q : Nat → Nat → Nat} {al : Nat} (hal : I 45 10 = nI al) (hal6 : al < 6) (kd rm ba : Int32) : hz_Ev mX2_addAlarm TT NN (I, L, PP q) [.ref 45, .int kd, .int rm, .int ba] 0 0 none TT NN (hz_up (hz_up (hz_up (hz_up (hz_up I 48 al kd) 49 al rm) 53 al ba) 45 10 (nI (al + 1))) 45 12 (nI 0), L, PP q) := by
  refine hz_Ev.intro (ls := [some (.ref 45), some (.int kd), some (.int rm), some (.int ba)]) (by decide +kernel) rfl (Nat.le_of_ble_eq_true rfl) (fun X C Z _ => ?_)
  refine hz_aload_n (pc := 0) C dX2_addAlarm_0 rfl ?_
  refine hz_getP (pc := 1) C (v := 48) ffX2_18 dX2_addAlarm_1 hT45 hA45 rfl (hP45_3 q) (by decide) ?_
  refine hz_aload_n (pc := 4) C dX2_addAlarm_4 rfl ?_
  refine hz_getI (pc := 5) C (v := nI al) ffX2_70 dX2_addAlarm_5 hT45 hA45 rfl hal ?_
  refine hz_iload_n (pc := 8) C dX2_addAlarm_8 rfl ?_
  refine hz_iast (pc := 9) C (v := kd) (j := al) (M' := (hz_up I 48 al kd, L, PP q)) dX2_addAlarm_9 hT48 hA48 rfl (by omega) (by decide) rfl rfl ?_
  refine hz_aload_n (pc := 10) C dX2_addAlarm_10 rfl ?_
  refine hz_getP (pc := 11) C (v := 49) ffX2_21 dX2_addAlarm_11 hT45 hA45 rfl (hP45_4 q) (by decide) ?_
  refine hz_aload_n (pc := 14) C dX2_addAlarm_14 rfl ?_
  refine hz_getI (pc := 15) C (v := nI al) ffX2_70 dX2_addAlarm_15 hT45 hA45 rfl hal ?_
  refine hz_iload_n (pc := 18) C dX2_addAlarm_18 rfl ?_
  refine hz_iast (pc := 19) C (v := rm) (j := al) (M' := (hz_up (hz_up I 48 al kd) 49 al rm, L, PP q)) dX2_addAlarm_19 hT49 hA49 rfl (by omega) (by decide) rfl rfl ?_
  refine hz_aload_n (pc := 20) C dX2_addAlarm_20 rfl ?_
  refine hz_getP (pc := 21) C (v := 52) ffX2_33 dX2_addAlarm_21 hT45 hA45 rfl (hP45_7 q) (by decide) ?_
  refine hz_getP (pc := 24) C (v := 53) ffX2_102 dX2_addAlarm_24 hT52 hA52 rfl (hP52_0 q) (by decide) ?_
  refine hz_aload_n (pc := 27) C dX2_addAlarm_27 rfl ?_
  refine hz_getI (pc := 28) C (v := nI al) ffX2_70 dX2_addAlarm_28 hT45 hA45 rfl hal ?_
  refine hz_iload_n (pc := 31) C dX2_addAlarm_31 rfl ?_
  refine hz_iast (pc := 32) C (v := ba) (j := al) (M' := (hz_up (hz_up (hz_up I 48 al kd) 49 al rm) 53 al ba, L, PP q)) dX2_addAlarm_32 hT53 hA53 rfl (by omega) (by decide) rfl rfl ?_
  refine hz_aload_n (pc := 33) C dX2_addAlarm_33 rfl ?_
  refine hz_dup (pc := 34) C dX2_addAlarm_34 rfl ?_
  refine hz_getI (pc := 35) C (v := nI al) ffX2_70 dX2_addAlarm_35 hT45 hA45 rfl hal ?_
  refine hz_iconst (pc := 38) C (v := nI 1) dX2_addAlarm_38 (by decide +kernel) ?_
  refine hz_iadd (pc := 39) C (v := nI (al + 1)) dX2_addAlarm_39 (nI_add _ _) ?_
  refine hz_putI (pc := 40) C (M' := (hz_up (hz_up (hz_up (hz_up I 48 al kd) 49 al rm) 53 al ba) 45 10 (nI (al + 1)), L, PP q)) ffX2_70 dX2_addAlarm_40 hT45 hA45 rfl rfl ⟨rfl, rfl⟩ rfl ?_
  refine hz_aload_n (pc := 43) C dX2_addAlarm_43 rfl ?_
  refine hz_iconst (pc := 44) C (v := nI 0) dX2_addAlarm_44 (by decide +kernel) ?_
  refine hz_putI (pc := 45) C (M' := (hz_up (hz_up (hz_up (hz_up (hz_up I 48 al kd) 49 al rm) 53 al ba) 45 10 (nI (al + 1))) 45 12 (nI 0), L, PP q)) ffX2_77 dX2_addAlarm_45 hT45 hA45 rfl rfl ⟨rfl, rfl⟩ rfl ?_
  exact hz_vret C Z rfl dX2_addAlarm_48 rfl
set_option maxHeartbeats 4000000 in
set_option maxRecDepth 100000 in
theorem ev_addNote {I : Nat → Nat → Int32} {L : Nat → Nat → Int64} {q : Nat → Nat → Nat} {nt : Nat} (hnt : I 12 11 = nI nt) (hnt6 : nt < 6) (r t : Int32) : hz_Ev mX2_addNote TT NN (I, L, PP q) [.ref 12, .int r, .int t] 0 0 none TT NN (hz_up (hz_up (hz_up I 17 nt r) 18 nt t) 12 11 (nI (nt + 1)), L, PP q) := by
  refine hz_Ev.intro (ls := [some (.ref 12), some (.int r), some (.int t)]) (by decide +kernel) rfl (Nat.le_of_ble_eq_true rfl) (fun X C Z _ => ?_)
  refine hz_aload_n (pc := 0) C dX2_addNote_0 rfl ?_
  refine hz_getP (pc := 1) C (v := 17) ffX2_24 dX2_addNote_1 hT12 hA12 rfl (hP12_5 q) (by decide) ?_
  refine hz_aload_n (pc := 4) C dX2_addNote_4 rfl ?_
  refine hz_getI (pc := 5) C (v := nI nt) ffX2_74 dX2_addNote_5 hT12 hA12 rfl hnt ?_
  refine hz_iload_n (pc := 8) C dX2_addNote_8 rfl ?_
  refine hz_iast (pc := 9) C (v := r) (j := nt) (M' := (hz_up I 17 nt r, L, PP q)) dX2_addNote_9 hT17 hA17 rfl (by omega) (by decide) rfl rfl ?_
  refine hz_aload_n (pc := 10) C dX2_addNote_10 rfl ?_
  refine hz_getP (pc := 11) C (v := 18) ffX2_27 dX2_addNote_11 hT12 hA12 rfl (hP12_6 q) (by decide) ?_
  refine hz_aload_n (pc := 14) C dX2_addNote_14 rfl ?_
  refine hz_getI (pc := 15) C (v := nI nt) ffX2_74 dX2_addNote_15 hT12 hA12 rfl hnt ?_
  refine hz_iload_n (pc := 18) C dX2_addNote_18 rfl ?_
  refine hz_iast (pc := 19) C (v := t) (j := nt) (M' := (hz_up (hz_up I 17 nt r) 18 nt t, L, PP q)) dX2_addNote_19 hT18 hA18 rfl (by omega) (by decide) rfl rfl ?_
  refine hz_aload_n (pc := 20) C dX2_addNote_20 rfl ?_
  refine hz_dup (pc := 21) C dX2_addNote_21 rfl ?_
  refine hz_getI (pc := 22) C (v := nI nt) ffX2_74 dX2_addNote_22 hT12 hA12 rfl hnt ?_
  refine hz_iconst (pc := 25) C (v := nI 1) dX2_addNote_25 (by decide +kernel) ?_
  refine hz_iadd (pc := 26) C (v := nI (nt + 1)) dX2_addNote_26 (nI_add _ _) ?_
  refine hz_putI (pc := 27) C (M' := (hz_up (hz_up (hz_up I 17 nt r) 18 nt t) 12 11 (nI (nt + 1)), L, PP q)) ffX2_74 dX2_addNote_27 hT12 hA12 rfl rfl ⟨rfl, rfl⟩ rfl ?_
  exact hz_vret C Z rfl dX2_addNote_30 rfl

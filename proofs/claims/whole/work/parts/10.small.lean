def hz_us (x : Int32) (k : Nat) : Int32 := (x.toUInt32 >>> ((nI k).toUInt32 &&& Int32.toUInt32 31)).toInt32
def hz_bc1 (v : Int32) : Int32 := v - (hz_us v 1 &&& nI 1431655765)
def hz_bc2 (v : Int32) : Int32 := (v &&& nI 858993459) + (hz_us v 2 &&& nI 858993459)
def hz_bc3 (v : Int32) : Int32 := (v + hz_us v 4) &&& nI 252645135
def hz_bc4 (v : Int32) : Int32 := v + hz_us v 8
def hz_bc5 (v : Int32) : Int32 := v + hz_us v 16
def hz_bc32 (v : Int32) : Int32 := hz_bc5 (hz_bc4 (hz_bc3 (hz_bc2 (hz_bc1 v)))) &&& nI 63
set_option maxHeartbeats 4000000 in
set_option maxRecDepth 100000 in
theorem ev_within {T : hz_T} {n : Nat} (M : hz_M) (v a b : Int32) : hz_Ev mX10_within T n M [.int v, .int a, .int b] 0 0 (some (.int (hz_b (¬ v < a ∧ ¬ b < v)))) T n M := by
  refine hz_Ev.intro (ls := [some (.int v), some (.int a), some (.int b)]) (by decide +kernel) rfl (Nat.le_of_ble_eq_true rfl) (fun X C Z _ => ?_)
  refine hz_iload_n (pc := 0) C dX10_within_0 rfl ?_
  refine hz_iload_n (pc := 1) C dX10_within_1 rfl ?_
  refine hz_ic_lt (pc := 2) C (tgt := 14) dX10_within_2 rfl (fun c1 => ?_) (fun c1 => ?_)
  · refine hz_iconst (pc := 14) C (v := nI 0) dX10_within_14 (by decide +kernel) ?_
    exact hz_zret C Z rfl (by decide +kernel) dX10_within_15 (hz_b0 (by simp [c1])).symm rfl
  · refine hz_iload_n (pc := 5) C dX10_within_5 rfl ?_
    refine hz_iload_n (pc := 6) C dX10_within_6 rfl ?_
    refine hz_ic_gt (pc := 7) C (tgt := 14) dX10_within_7 rfl (fun c2 => ?_) (fun c2 => ?_)
    · refine hz_iconst (pc := 14) C (v := nI 0) dX10_within_14 (by decide +kernel) ?_
      exact hz_zret C Z rfl (by decide +kernel) dX10_within_15 (hz_b0 (by simp [c1, c2])).symm rfl
    · refine hz_iconst (pc := 10) C (v := nI 1) dX10_within_10 (by decide +kernel) ?_
      refine hz_goto (pc := 11) C (tgt := 15) dX10_within_11 rfl ?_
      exact hz_zret C Z rfl (by decide +kernel) dX10_within_15 (hz_b1 (by simp [c1, c2])).symm rfl
set_option maxHeartbeats 4000000 in
set_option maxRecDepth 100000 in
theorem ev_in {T : hz_T} {n : Nat} (M : hz_M) (v a b : Int32) : hz_Ev mX11_in T n M [.int v, .int a, .int b] 0 0 (some (.int (hz_b (¬ v < a ∧ ¬ b < v)))) T n M := by
  refine hz_Ev.intro (ls := [some (.int v), some (.int a), some (.int b)]) (by decide +kernel) rfl (Nat.le_of_ble_eq_true rfl) (fun X C Z _ => ?_)
  refine hz_iload_n (pc := 0) C dX11_in_0 rfl ?_
  refine hz_iload_n (pc := 1) C dX11_in_1 rfl ?_
  refine hz_ic_lt (pc := 2) C (tgt := 14) dX11_in_2 rfl (fun c1 => ?_) (fun c1 => ?_)
  · refine hz_iconst (pc := 14) C (v := nI 0) dX11_in_14 (by decide +kernel) ?_
    exact hz_zret C Z rfl (by decide +kernel) dX11_in_15 (hz_b0 (by simp [c1])).symm rfl
  · refine hz_iload_n (pc := 5) C dX11_in_5 rfl ?_
    refine hz_iload_n (pc := 6) C dX11_in_6 rfl ?_
    refine hz_ic_gt (pc := 7) C (tgt := 14) dX11_in_7 rfl (fun c2 => ?_) (fun c2 => ?_)
    · refine hz_iconst (pc := 14) C (v := nI 0) dX11_in_14 (by decide +kernel) ?_
      exact hz_zret C Z rfl (by decide +kernel) dX11_in_15 (hz_b0 (by simp [c1, c2])).symm rfl
    · refine hz_iconst (pc := 10) C (v := nI 1) dX11_in_10 (by decide +kernel) ?_
      refine hz_goto (pc := 11) C (tgt := 15) dX11_in_11 rfl ?_
      exact hz_zret C Z rfl (by decide +kernel) dX11_in_15 (hz_b1 (by simp [c1, c2])).symm rfl
set_option maxHeartbeats 4000000 in
set_option maxRecDepth 100000 in
theorem ev_has {T : hz_T} {n : Nat} (M : hz_M) (v k : Int32) : hz_Ev mX10_has T n M [.int v, .int k] 0 0 (some (.int (hz_b ((v >>> (k &&& 31)) &&& nI 1 = nI 1)))) T n M := by
  refine hz_Ev.intro (ls := [some (.int v), some (.int k)]) (by decide +kernel) rfl (Nat.le_of_ble_eq_true rfl) (fun X C Z _ => ?_)
  refine hz_iload_n (pc := 0) C dX10_has_0 rfl ?_
  refine hz_iload_n (pc := 1) C dX10_has_1 rfl ?_
  refine hz_ishr (pc := 2) C dX10_has_2 rfl ?_
  refine hz_iconst (pc := 3) C (v := nI 1) dX10_has_3 (by decide +kernel) ?_
  refine hz_iand (pc := 4) C dX10_has_4 rfl ?_
  refine hz_iconst (pc := 5) C (v := nI 1) dX10_has_5 (by decide +kernel) ?_
  refine hz_ic_ne (pc := 6) C (tgt := 13) dX10_has_6 rfl (fun c1 => ?_) (fun c1 => ?_)
  · refine hz_iconst (pc := 13) C (v := nI 0) dX10_has_13 (by decide +kernel) ?_
    exact hz_zret C Z rfl (by decide +kernel) dX10_has_14 (hz_b0 (by simp [c1])).symm rfl
  · refine hz_iconst (pc := 9) C (v := nI 1) dX10_has_9 (by decide +kernel) ?_
    refine hz_goto (pc := 10) C (tgt := 14) dX10_has_10 rfl ?_
    exact hz_zret C Z rfl (by decide +kernel) dX10_has_14 (hz_b1 (by simp [c1])).symm rfl
set_option maxHeartbeats 4000000 in
set_option maxRecDepth 100000 in
theorem ev_has11 {T : hz_T} {n : Nat} (M : hz_M) (v k : Int32) : hz_Ev mX11_has T n M [.int v, .int k] 0 0 (some (.int (hz_b ((v >>> (k &&& 31)) &&& nI 1 = nI 1)))) T n M := by
  refine hz_Ev.intro (ls := [some (.int v), some (.int k)]) (by decide +kernel) rfl (Nat.le_of_ble_eq_true rfl) (fun X C Z _ => ?_)
  refine hz_iload_n (pc := 0) C dX11_has_0 rfl ?_
  refine hz_iload_n (pc := 1) C dX11_has_1 rfl ?_
  refine hz_ishr (pc := 2) C dX11_has_2 rfl ?_
  refine hz_iconst (pc := 3) C (v := nI 1) dX11_has_3 (by decide +kernel) ?_
  refine hz_iand (pc := 4) C dX11_has_4 rfl ?_
  refine hz_iconst (pc := 5) C (v := nI 1) dX11_has_5 (by decide +kernel) ?_
  refine hz_ic_ne (pc := 6) C (tgt := 13) dX11_has_6 rfl (fun c1 => ?_) (fun c1 => ?_)
  · refine hz_iconst (pc := 13) C (v := nI 0) dX11_has_13 (by decide +kernel) ?_
    exact hz_zret C Z rfl (by decide +kernel) dX11_has_14 (hz_b0 (by simp [c1])).symm rfl
  · refine hz_iconst (pc := 9) C (v := nI 1) dX11_has_9 (by decide +kernel) ?_
    refine hz_goto (pc := 10) C (tgt := 14) dX11_has_10 rfl ?_
    exact hz_zret C Z rfl (by decide +kernel) dX11_has_14 (hz_b1 (by simp [c1])).symm rfl
set_option maxHeartbeats 4000000 in
set_option maxRecDepth 100000 in
theorem ev_isRoom {T : hz_T} {n : Nat} (M : hz_M) (v : Int32) : hz_Ev mX10_isRoom T n M [.int v] 0 0 (some (.int (hz_b (¬ v < nI 0 ∧ ¬ nI 7 < v)))) T n M := by
  refine hz_Ev.intro (ls := [some (.int v)]) (by decide +kernel) rfl (Nat.le_of_ble_eq_true rfl) (fun X C Z _ => ?_)
  refine hz_iload_n (pc := 0) C dX10_isRoom_0 rfl ?_
  refine hz_iconst (pc := 1) C (v := nI 0) dX10_isRoom_1 (by decide +kernel) ?_
  refine hz_bipush (pc := 2) C (v := nI 7) dX10_isRoom_2 (by decide +kernel) ?_
  refine hz_callSs (pc := 4) C (as := [.int v, .int (nI 0), .int (nI 7)]) (st := []) (ev_within _ v (nI 0) (nI 7)) (hz_new0 _ _) fyX10_within fsX10_59 rfl dX10_isRoom_4 rfl rfl (Nat.le_of_ble_eq_true rfl) (by decide) (hz_cap0 _) ?_
  exact hz_zret C Z rfl (hz_bn _) dX10_isRoom_7 rfl rfl
set_option maxHeartbeats 4000000 in
set_option maxRecDepth 100000 in
theorem ev_isRoomM {T : hz_T} {n : Nat} (M : hz_M) (v : Int32) : hz_Ev mX11_isRoom T n M [.int v] 0 0 (some (.int (hz_b (¬ v < nI 0 ∧ ¬ nI 7 < v)))) T n M := by
  refine hz_Ev.intro (ls := [some (.int v)]) (by decide +kernel) rfl (Nat.le_of_ble_eq_true rfl) (fun X C Z _ => ?_)
  refine hz_iload_n (pc := 0) C dX11_isRoom_0 rfl ?_
  refine hz_iconst (pc := 1) C (v := nI 0) dX11_isRoom_1 (by decide +kernel) ?_
  refine hz_bipush (pc := 2) C (v := nI 7) dX11_isRoom_2 (by decide +kernel) ?_
  refine hz_callSs (pc := 4) C (as := [.int v, .int (nI 0), .int (nI 7)]) (st := []) (ev_in _ v (nI 0) (nI 7)) (hz_new0 _ _) fyX11_in fsX11_52 rfl dX11_isRoom_4 rfl rfl (Nat.le_of_ble_eq_true rfl) (by decide) (hz_cap0 _) ?_
  exact hz_zret C Z rfl (hz_bn _) dX11_isRoom_7 rfl rfl
set_option maxHeartbeats 4000000 in
set_option maxRecDepth 100000 in
theorem ev_isSecond {T : hz_T} {n : Nat} (M : hz_M) (v : Int32) : hz_Ev mX10_isSecond T n M [.int v] 0 0 (some (.int (hz_b (¬ v < nI 0 ∧ ¬ nI 9999 < v)))) T n M := by
  refine hz_Ev.intro (ls := [some (.int v)]) (by decide +kernel) rfl (Nat.le_of_ble_eq_true rfl) (fun X C Z _ => ?_)
  refine hz_iload_n (pc := 0) C dX10_isSecond_0 rfl ?_
  refine hz_iconst (pc := 1) C (v := nI 0) dX10_isSecond_1 (by decide +kernel) ?_
  refine hz_sipush (pc := 2) C (v := nI 9999) dX10_isSecond_2 (by decide +kernel) ?_
  refine hz_callSs (pc := 5) C (as := [.int v, .int (nI 0), .int (nI 9999)]) (st := []) (ev_within _ v (nI 0) (nI 9999)) (hz_new0 _ _) fyX10_within fsX10_59 rfl dX10_isSecond_5 rfl rfl (Nat.le_of_ble_eq_true rfl) (by decide) (hz_cap0 _) ?_
  exact hz_zret C Z rfl (hz_bn _) dX10_isSecond_8 rfl rfl
set_option maxHeartbeats 4000000 in
set_option maxRecDepth 100000 in
theorem ev_mix {T : hz_T} {n : Nat} (M : hz_M) (h v : Int64) : hz_Ev mX10_mix T n M [.long h, .long v] 0 0 (some (.long (31 * h + v))) T n M := by
  refine hz_Ev.intro (ls := [some (.long h), none, some (.long v), none]) (by decide +kernel) rfl (Nat.le_of_ble_eq_true rfl) (fun X C Z _ => ?_)
  refine hz_ldc2 (pc := 0) C (v := 31) dX10_mix_0 (hz_mp 879 (by decide +kernel)) ?_
  refine hz_lload_n (pc := 3) C dX10_mix_3 rfl ?_
  refine hz_lmul (pc := 4) C dX10_mix_4 rfl ?_
  refine hz_lload_n (pc := 5) C dX10_mix_5 rfl ?_
  refine hz_ladd (pc := 6) C dX10_mix_6 rfl ?_
  exact hz_lret C Z rfl dX10_mix_7 rfl rfl
set_option maxHeartbeats 4000000 in
set_option maxRecDepth 100000 in
theorem ev_bitCount {T : hz_T} {n : Nat} (M : hz_M) (v : Int32) : hz_Ev mJ6_bitCount_0f7a4 T n M [.int v] 0 0 (some (.int (hz_bc32 v))) T n M := by
  refine hz_Ev.intro (ls := [some (.int v)]) (by decide +kernel) rfl (Nat.le_of_ble_eq_true rfl) (fun X C Z _ => ?_)
  refine hz_iload_n (pc := 0) C dJ6_bitCount_0f7a4_0 rfl ?_
  refine hz_iload_n (pc := 1) C dJ6_bitCount_0f7a4_1 rfl ?_
  refine hz_iconst (pc := 2) C (v := nI 1) dJ6_bitCount_0f7a4_2 (by decide +kernel) ?_
  refine hz_iushr (pc := 3) C dJ6_bitCount_0f7a4_3 rfl ?_
  refine hz_ldcw (pc := 4) C (v := nI 1431655765) dJ6_bitCount_0f7a4_4 (hz_mp 702 (by decide +kernel)) ?_
  refine hz_iand (pc := 7) C dJ6_bitCount_0f7a4_7 rfl ?_
  refine hz_isub (pc := 8) C dJ6_bitCount_0f7a4_8 rfl ?_
  refine hz_istore_n (pc := 9) C (ls' := [some (.int (v - (((v.toUInt32 >>> ((nI 1).toUInt32 &&& Int32.toUInt32 31)).toInt32) &&& (nI 1431655765))))]) dJ6_bitCount_0f7a4_9 (Nat.le_of_ble_eq_true rfl) rfl ?_
  refine hz_iload_n (pc := 10) C dJ6_bitCount_0f7a4_10 rfl ?_
  refine hz_ldcw (pc := 11) C (v := nI 858993459) dJ6_bitCount_0f7a4_11 (hz_mp 703 (by decide +kernel)) ?_
  refine hz_iand (pc := 14) C dJ6_bitCount_0f7a4_14 rfl ?_
  refine hz_iload_n (pc := 15) C dJ6_bitCount_0f7a4_15 rfl ?_
  refine hz_iconst (pc := 16) C (v := nI 2) dJ6_bitCount_0f7a4_16 (by decide +kernel) ?_
  refine hz_iushr (pc := 17) C dJ6_bitCount_0f7a4_17 rfl ?_
  refine hz_ldcw (pc := 18) C (v := nI 858993459) dJ6_bitCount_0f7a4_18 (hz_mp 703 (by decide +kernel)) ?_
  refine hz_iand (pc := 21) C dJ6_bitCount_0f7a4_21 rfl ?_
  refine hz_iadd (pc := 22) C dJ6_bitCount_0f7a4_22 rfl ?_
  refine hz_istore_n (pc := 23) C (ls' := [some (.int (((v - (((v.toUInt32 >>> ((nI 1).toUInt32 &&& Int32.toUInt32 31)).toInt32) &&& (nI 1431655765))) &&& (nI 858993459)) + ((((v - (((v.toUInt32 >>> ((nI 1).toUInt32 &&& Int32.toUInt32 31)).toInt32) &&& (nI 1431655765))).toUInt32 >>> ((nI 2).toUInt32 &&& Int32.toUInt32 31)).toInt32) &&& (nI 858993459))))]) dJ6_bitCount_0f7a4_23 (Nat.le_of_ble_eq_true rfl) rfl ?_
  refine hz_iload_n (pc := 24) C dJ6_bitCount_0f7a4_24 rfl ?_
  refine hz_iload_n (pc := 25) C dJ6_bitCount_0f7a4_25 rfl ?_
  refine hz_iconst (pc := 26) C (v := nI 4) dJ6_bitCount_0f7a4_26 (by decide +kernel) ?_
  refine hz_iushr (pc := 27) C dJ6_bitCount_0f7a4_27 rfl ?_
  refine hz_iadd (pc := 28) C dJ6_bitCount_0f7a4_28 rfl ?_
  refine hz_ldcw (pc := 29) C (v := nI 252645135) dJ6_bitCount_0f7a4_29 (hz_mp 704 (by decide +kernel)) ?_
  refine hz_iand (pc := 32) C dJ6_bitCount_0f7a4_32 rfl ?_
  refine hz_istore_n (pc := 33) C (ls' := [some (.int (((((v - (((v.toUInt32 >>> ((nI 1).toUInt32 &&& Int32.toUInt32 31)).toInt32) &&& (nI 1431655765))) &&& (nI 858993459)) + ((((v - (((v.toUInt32 >>> ((nI 1).toUInt32 &&& Int32.toUInt32 31)).toInt32) &&& (nI 1431655765))).toUInt32 >>> ((nI 2).toUInt32 &&& Int32.toUInt32 31)).toInt32) &&& (nI 858993459))) + (((((v - (((v.toUInt32 >>> ((nI 1).toUInt32 &&& Int32.toUInt32 31)).toInt32) &&& (nI 1431655765))) &&& (nI 858993459)) + ((((v - (((v.toUInt32 >>> ((nI 1).toUInt32 &&& Int32.toUInt32 31)).toInt32) &&& (nI 1431655765))).toUInt32 >>> ((nI 2).toUInt32 &&& Int32.toUInt32 31)).toInt32) &&& (nI 858993459))).toUInt32 >>> ((nI 4).toUInt32 &&& Int32.toUInt32 31)).toInt32)) &&& (nI 252645135)))]) dJ6_bitCount_0f7a4_33 (Nat.le_of_ble_eq_true rfl) rfl ?_
  refine hz_iload_n (pc := 34) C dJ6_bitCount_0f7a4_34 rfl ?_
  refine hz_iload_n (pc := 35) C dJ6_bitCount_0f7a4_35 rfl ?_
  refine hz_bipush (pc := 36) C (v := nI 8) dJ6_bitCount_0f7a4_36 (by decide +kernel) ?_
  refine hz_iushr (pc := 38) C dJ6_bitCount_0f7a4_38 rfl ?_
  refine hz_iadd (pc := 39) C dJ6_bitCount_0f7a4_39 rfl ?_
  refine hz_istore_n (pc := 40) C (ls' := [some (.int ((((((v - (((v.toUInt32 >>> ((nI 1).toUInt32 &&& Int32.toUInt32 31)).toInt32) &&& (nI 1431655765))) &&& (nI 858993459)) + ((((v - (((v.toUInt32 >>> ((nI 1).toUInt32 &&& Int32.toUInt32 31)).toInt32) &&& (nI 1431655765))).toUInt32 >>> ((nI 2).toUInt32 &&& Int32.toUInt32 31)).toInt32) &&& (nI 858993459))) + (((((v - (((v.toUInt32 >>> ((nI 1).toUInt32 &&& Int32.toUInt32 31)).toInt32) &&& (nI 1431655765))) &&& (nI 858993459)) + ((((v - (((v.toUInt32 >>> ((nI 1).toUInt32 &&& Int32.toUInt32 31)).toInt32) &&& (nI 1431655765))).toUInt32 >>> ((nI 2).toUInt32 &&& Int32.toUInt32 31)).toInt32) &&& (nI 858993459))).toUInt32 >>> ((nI 4).toUInt32 &&& Int32.toUInt32 31)).toInt32)) &&& (nI 252645135)) + (((((((v - (((v.toUInt32 >>> ((nI 1).toUInt32 &&& Int32.toUInt32 31)).toInt32) &&& (nI 1431655765))) &&& (nI 858993459)) + ((((v - (((v.toUInt32 >>> ((nI 1).toUInt32 &&& Int32.toUInt32 31)).toInt32) &&& (nI 1431655765))).toUInt32 >>> ((nI 2).toUInt32 &&& Int32.toUInt32 31)).toInt32) &&& (nI 858993459))) + (((((v - (((v.toUInt32 >>> ((nI 1).toUInt32 &&& Int32.toUInt32 31)).toInt32) &&& (nI 1431655765))) &&& (nI 858993459)) + ((((v - (((v.toUInt32 >>> ((nI 1).toUInt32 &&& Int32.toUInt32 31)).toInt32) &&& (nI 1431655765))).toUInt32 >>> ((nI 2).toUInt32 &&& Int32.toUInt32 31)).toInt32) &&& (nI 858993459))).toUInt32 >>> ((nI 4).toUInt32 &&& Int32.toUInt32 31)).toInt32)) &&& (nI 252645135)).toUInt32 >>> ((nI 8).toUInt32 &&& Int32.toUInt32 31)).toInt32)))]) dJ6_bitCount_0f7a4_40 (Nat.le_of_ble_eq_true rfl) rfl ?_
  refine hz_iload_n (pc := 41) C dJ6_bitCount_0f7a4_41 rfl ?_
  refine hz_iload_n (pc := 42) C dJ6_bitCount_0f7a4_42 rfl ?_
  refine hz_bipush (pc := 43) C (v := nI 16) dJ6_bitCount_0f7a4_43 (by decide +kernel) ?_
  refine hz_iushr (pc := 45) C dJ6_bitCount_0f7a4_45 rfl ?_
  refine hz_iadd (pc := 46) C dJ6_bitCount_0f7a4_46 rfl ?_
  refine hz_istore_n (pc := 47) C (ls' := [some (.int (((((((v - (((v.toUInt32 >>> ((nI 1).toUInt32 &&& Int32.toUInt32 31)).toInt32) &&& (nI 1431655765))) &&& (nI 858993459)) + ((((v - (((v.toUInt32 >>> ((nI 1).toUInt32 &&& Int32.toUInt32 31)).toInt32) &&& (nI 1431655765))).toUInt32 >>> ((nI 2).toUInt32 &&& Int32.toUInt32 31)).toInt32) &&& (nI 858993459))) + (((((v - (((v.toUInt32 >>> ((nI 1).toUInt32 &&& Int32.toUInt32 31)).toInt32) &&& (nI 1431655765))) &&& (nI 858993459)) + ((((v - (((v.toUInt32 >>> ((nI 1).toUInt32 &&& Int32.toUInt32 31)).toInt32) &&& (nI 1431655765))).toUInt32 >>> ((nI 2).toUInt32 &&& Int32.toUInt32 31)).toInt32) &&& (nI 858993459))).toUInt32 >>> ((nI 4).toUInt32 &&& Int32.toUInt32 31)).toInt32)) &&& (nI 252645135)) + (((((((v - (((v.toUInt32 >>> ((nI 1).toUInt32 &&& Int32.toUInt32 31)).toInt32) &&& (nI 1431655765))) &&& (nI 858993459)) + ((((v - (((v.toUInt32 >>> ((nI 1).toUInt32 &&& Int32.toUInt32 31)).toInt32) &&& (nI 1431655765))).toUInt32 >>> ((nI 2).toUInt32 &&& Int32.toUInt32 31)).toInt32) &&& (nI 858993459))) + (((((v - (((v.toUInt32 >>> ((nI 1).toUInt32 &&& Int32.toUInt32 31)).toInt32) &&& (nI 1431655765))) &&& (nI 858993459)) + ((((v - (((v.toUInt32 >>> ((nI 1).toUInt32 &&& Int32.toUInt32 31)).toInt32) &&& (nI 1431655765))).toUInt32 >>> ((nI 2).toUInt32 &&& Int32.toUInt32 31)).toInt32) &&& (nI 858993459))).toUInt32 >>> ((nI 4).toUInt32 &&& Int32.toUInt32 31)).toInt32)) &&& (nI 252645135)).toUInt32 >>> ((nI 8).toUInt32 &&& Int32.toUInt32 31)).toInt32)) + ((((((((v - (((v.toUInt32 >>> ((nI 1).toUInt32 &&& Int32.toUInt32 31)).toInt32) &&& (nI 1431655765))) &&& (nI 858993459)) + ((((v - (((v.toUInt32 >>> ((nI 1).toUInt32 &&& Int32.toUInt32 31)).toInt32) &&& (nI 1431655765))).toUInt32 >>> ((nI 2).toUInt32 &&& Int32.toUInt32 31)).toInt32) &&& (nI 858993459))) + (((((v - (((v.toUInt32 >>> ((nI 1).toUInt32 &&& Int32.toUInt32 31)).toInt32) &&& (nI 1431655765))) &&& (nI 858993459)) + ((((v - (((v.toUInt32 >>> ((nI 1).toUInt32 &&& Int32.toUInt32 31)).toInt32) &&& (nI 1431655765))).toUInt32 >>> ((nI 2).toUInt32 &&& Int32.toUInt32 31)).toInt32) &&& (nI 858993459))).toUInt32 >>> ((nI 4).toUInt32 &&& Int32.toUInt32 31)).toInt32)) &&& (nI 252645135)) + (((((((v - (((v.toUInt32 >>> ((nI 1).toUInt32 &&& Int32.toUInt32 31)).toInt32) &&& (nI 1431655765))) &&& (nI 858993459)) + ((((v - (((v.toUInt32 >>> ((nI 1).toUInt32 &&& Int32.toUInt32 31)).toInt32) &&& (nI 1431655765))).toUInt32 >>> ((nI 2).toUInt32 &&& Int32.toUInt32 31)).toInt32) &&& (nI 858993459))) + (((((v - (((v.toUInt32 >>> ((nI 1).toUInt32 &&& Int32.toUInt32 31)).toInt32) &&& (nI 1431655765))) &&& (nI 858993459)) + ((((v - (((v.toUInt32 >>> ((nI 1).toUInt32 &&& Int32.toUInt32 31)).toInt32) &&& (nI 1431655765))).toUInt32 >>> ((nI 2).toUInt32 &&& Int32.toUInt32 31)).toInt32) &&& (nI 858993459))).toUInt32 >>> ((nI 4).toUInt32 &&& Int32.toUInt32 31)).toInt32)) &&& (nI 252645135)).toUInt32 >>> ((nI 8).toUInt32 &&& Int32.toUInt32 31)).toInt32)).toUInt32 >>> ((nI 16).toUInt32 &&& Int32.toUInt32 31)).toInt32)))]) dJ6_bitCount_0f7a4_47 (Nat.le_of_ble_eq_true rfl) rfl ?_
  refine hz_iload_n (pc := 48) C dJ6_bitCount_0f7a4_48 rfl ?_
  refine hz_bipush (pc := 49) C (v := nI 63) dJ6_bitCount_0f7a4_49 (by decide +kernel) ?_
  refine hz_iand (pc := 51) C dJ6_bitCount_0f7a4_51 rfl ?_
  exact hz_iret C Z rfl dJ6_bitCount_0f7a4_52 rfl rfl

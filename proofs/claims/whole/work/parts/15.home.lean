/-- bit k of a small number -/
def bt (d k : Nat) : Bool := decide (d / 2 ^ k % 2 = 1)
theorem bt_has {d k : Nat} (hd : d < 64) (hk : k < 6) : ((nI d >>> (nI k &&& 31)) &&& nI 1 = nI 1) ↔ bt d k = true := by
  have h : ∀ k, k < 6 → ∀ d, d < 64 → (((nI d >>> (nI k &&& 31)) &&& nI 1 = nI 1) ↔ bt d k = true) := by decide +kernel
  exact h k hk d hd
/-- may it beep, being up or of a kind that beeps down too; does it beep in a second; is it heard in a room -/
def mb (u : Nat → Nat) (k : Nat) : Bool := !bt (u 93) k || sd_of (u (65 + k))
def sin (u : Nat → Nat) (k : Nat) (s : Int32) : Bool := mb u k && so_of (u (65 + k)) s (nI (u 92)) (nI (u (94 + k)))
def rch (u : Nat → Nat) (r k : Nat) : Bool := decide (ds u r (u (71 + k)) < lo_of (u (65 + k)))
theorem lo_le (k : Nat) : lo_of k ≤ 40 := by simp only [lo_of]; split <;> (try split) <;> (try split) <;> omega
theorem ds_le {u : Nat → Nat} (U : WU u) {a b : Nat} (ha : a < 8) (hb : b < 8) : ds u a b ≤ 1000 := fw_le u U.2.1 8 a b ha hb
theorem ev_hasN {T : hz_T} {n : Nat} (M : hz_M) {d k : Nat} (hd : d < 64) (hk : k < 6) : hz_Ev mX10_has T n M [.int (nI d), .int (nI k)] 0 0 (some (.int (hz_b (bt d k = true)))) T n M := by
  rw [← hz_bc (bt_has hd hk)]
  exact ev_has M (nI d) (nI k)
theorem ev_hasM {T : hz_T} {n : Nat} (M : hz_M) {d k : Nat} (hd : d < 64) (hk : k < 6) : hz_Ev mX11_has T n M [.int (nI d), .int (nI k)] 0 0 (some (.int (hz_b (bt d k = true)))) T n M := by
  rw [← hz_bc (bt_has hd hk)]
  exact ev_has11 M (nI d) (nI k)
set_option maxHeartbeats 4000000 in
set_option maxRecDepth 100000 in
theorem ev_kindOf {I : Nat → Nat → Int32} {L : Nat → Nat → Int64} {q : Nat → Nat → Nat} {u : Nat → Nat} (V : HV 12 q I u) (U : WU u) {k : Nat} (hk : k < u 64) : hz_Ev mX2_kindOf TT NN (I, L, PP q) [.ref 12, .int (nI k)] 0 0 (some (.ref (23 + u (65 + k)))) TT NN (I, L, PP q) := by
  have hal := wu_al U
  have hkd := wu_kd U hk
  have hrm := wu_rm U hk
  refine hz_Ev.intro (ls := [some (.ref 12), some (.int (nI k))]) (by decide +kernel) rfl (Nat.le_of_ble_eq_true rfl) (fun X C Z _ => ?_)
  refine hz_aload_n (pc := 0) C dX2_kindOf_0 rfl ?_
  refine hz_getP (pc := 1) C (v := 22) ffX2_59 dX2_kindOf_1 hT12 hA12 rfl (hP12_0 q) (by decide) ?_
  refine hz_aload_n (pc := 4) C dX2_kindOf_4 rfl ?_
  refine hz_getP (pc := 5) C (v := 15) ffX2_18 dX2_kindOf_5 hT12 hA12 rfl (hP12_3 q) (by decide) ?_
  refine hz_iload_n (pc := 8) C dX2_kindOf_8 rfl ?_
  refine hz_iald (pc := 9) C (v := nI (u (65 + k))) (j := k) dX2_kindOf_9 hT15 hA15 rfl (by omega) (by decide) (hv_kd V (by omega)) ?_
  refine hz_aald (pc := 10) C (v := 23 + u (65 + k)) (j := u (65 + k)) dX2_kindOf_10 hT22 (Or.inr (Or.inr rfl)) hA22 rfl (by omega) (by decide) (hP22 q hkd) (by omega) ?_
  exact hz_aret C Z rfl (Or.inl ⟨_, rfl⟩) dX2_kindOf_11 rfl rfl
set_option maxHeartbeats 4000000 in
set_option maxRecDepth 100000 in
theorem ev_mayBeep {I : Nat → Nat → Int32} {L : Nat → Nat → Int64} {q : Nat → Nat → Nat} {u : Nat → Nat} (V : HV 12 q I u) (U : WU u) {k : Nat} (hk : k < u 64) : hz_Ev mX2_mayBeep TT NN (I, L, PP q) [.ref 12, .int (nI k)] 0 0 (some (.int (hz_b (mb u k = true)))) TT NN (I, L, PP q) := by
  have hal := wu_al U
  have hkd := wu_kd U hk
  have hrm := wu_rm U hk
  refine hz_Ev.intro (ls := [some (.ref 12), some (.int (nI k))]) (by decide +kernel) rfl (Nat.le_of_ble_eq_true rfl) (fun X C Z _ => ?_)
  refine hz_aload_n (pc := 0) C dX2_mayBeep_0 rfl ?_
  refine hz_getP (pc := 1) C (v := 19) ffX2_33 dX2_mayBeep_1 hT12 hA12 rfl (hP12_7 q) (by decide) ?_
  refine hz_getI (pc := 4) C (v := nI (u 93)) ffX2_89 dX2_mayBeep_4 hT19 hA19 rfl (hv_dn V) ?_
  refine hz_iload_n (pc := 7) C dX2_mayBeep_7 rfl ?_
  refine hz_callSNs (pc := 8) C (as := [.int (nI (u 93)), .int (nI k)]) (st := []) (ev_hasN _ (wu_dn U) (by omega)) (hz_new0 _ _) fyX10_has fsX2_114 rfl dX2_mayBeep_8 rfl rfl (Nat.le_of_ble_eq_true rfl) (by decide) (hz_cap0 _) ?_
  refine hz_ifb_eq (pc := 11) C (tgt := 25) dX2_mayBeep_11 rfl (fun c1 => ?_) (fun c1 => ?_)
  · refine hz_iconst (pc := 25) C (v := nI 1) dX2_mayBeep_25 (by decide +kernel) ?_
    refine hz_goto (pc := 26) C (tgt := 30) dX2_mayBeep_26 rfl ?_
    exact hz_zret C Z rfl (by decide +kernel) dX2_mayBeep_30 (hz_b1 (by simp [mb, c1])).symm rfl
  · refine hz_aload_n (pc := 14) C dX2_mayBeep_14 rfl ?_
    refine hz_iload_n (pc := 15) C dX2_mayBeep_15 rfl ?_
    refine hz_callVs (pc := 16) C (as := [.int (nI k)]) (st := []) (ev_kindOf V U (k := k) (by omega)) (hz_new0 _ _) fyX2_kindOf fvX2_118 rfl dX2_mayBeep_16 hT12 rfl rfl hA12 rfl rfl (Nat.le_of_ble_eq_true rfl) (by decide) (hz_cap0 _) ?_
    refine kc_sd (pc := 19) (k := u (65 + k)) (st := []) C fvX2_122_X6 fvX2_122_X4 fvX2_122_X9 fvX2_122_X0 fvX2_122_X5 fvX2_122_X1 (by omega) dX2_mayBeep_19 rfl (Nat.le_of_ble_eq_true rfl) (by decide) ?_
    refine hz_ifb_eq (pc := 22) C (tgt := 29) dX2_mayBeep_22 rfl (fun c2 => ?_) (fun c2 => ?_)
    · refine hz_iconst (pc := 29) C (v := nI 0) dX2_mayBeep_29 (by decide +kernel) ?_
      exact hz_zret C Z rfl (by decide +kernel) dX2_mayBeep_30 (hz_b0 (by simp [mb, c1, c2])).symm rfl
    · refine hz_iconst (pc := 25) C (v := nI 1) dX2_mayBeep_25 (by decide +kernel) ?_
      refine hz_goto (pc := 26) C (tgt := 30) dX2_mayBeep_26 rfl ?_
      exact hz_zret C Z rfl (by decide +kernel) dX2_mayBeep_30 (hz_b1 (by simp [mb, c1, c2])).symm rfl
set_option maxHeartbeats 4000000 in
set_option maxRecDepth 100000 in
theorem ev_soundsIn {I : Nat → Nat → Int32} {L : Nat → Nat → Int64} {q : Nat → Nat → Nat} {u : Nat → Nat} (V : HV 12 q I u) (U : WU u) {k : Nat} (hk : k < u 64) (s : Int32) : hz_Ev mX2_soundsIn TT NN (I, L, PP q) [.ref 12, .int (nI k), .int s] 0 0 (some (.int (hz_b (sin u k s = true)))) TT NN (I, L, PP q) := by
  have hal := wu_al U
  have hkd := wu_kd U hk
  have hrm := wu_rm U hk
  refine hz_Ev.intro (ls := [some (.ref 12), some (.int (nI k)), some (.int s)]) (by decide +kernel) rfl (Nat.le_of_ble_eq_true rfl) (fun X C Z _ => ?_)
  refine hz_aload_n (pc := 0) C dX2_soundsIn_0 rfl ?_
  refine hz_iload_n (pc := 1) C dX2_soundsIn_1 rfl ?_
  refine hz_callVs (pc := 2) C (as := [.int (nI k)]) (st := []) (ev_mayBeep V U (k := k) (by omega)) (hz_new0 _ _) fyX2_mayBeep fvX2_126 rfl dX2_soundsIn_2 hT12 rfl rfl hA12 rfl rfl (Nat.le_of_ble_eq_true rfl) (by decide) (hz_cap0 _) ?_
  refine hz_ifb_eq (pc := 5) C (tgt := 40) dX2_soundsIn_5 rfl (fun c1 => ?_) (fun c1 => ?_)
  · refine hz_iconst (pc := 40) C (v := nI 0) dX2_soundsIn_40 (by decide +kernel) ?_
    exact hz_zret C Z rfl (by decide +kernel) dX2_soundsIn_41 (hz_b0 (by simp [sin, c1])).symm rfl
  · refine hz_aload_n (pc := 8) C dX2_soundsIn_8 rfl ?_
    refine hz_iload_n (pc := 9) C dX2_soundsIn_9 rfl ?_
    refine hz_callVs (pc := 10) C (as := [.int (nI k)]) (st := []) (ev_kindOf V U (k := k) (by omega)) (hz_new0 _ _) fyX2_kindOf fvX2_118 rfl dX2_soundsIn_10 hT12 rfl rfl hA12 rfl rfl (Nat.le_of_ble_eq_true rfl) (by decide) (hz_cap0 _) ?_
    refine hz_iload_n (pc := 13) C dX2_soundsIn_13 rfl ?_
    refine hz_aload_n (pc := 14) C dX2_soundsIn_14 rfl ?_
    refine hz_getP (pc := 15) C (v := 19) ffX2_33 dX2_soundsIn_15 hT12 hA12 rfl (hP12_7 q) (by decide) ?_
    refine hz_getI (pc := 18) C (v := nI (u 92)) ffX2_86 dX2_soundsIn_18 hT19 hA19 rfl (hv_co V) ?_
    refine hz_aload_n (pc := 21) C dX2_soundsIn_21 rfl ?_
    refine hz_getP (pc := 22) C (v := 19) ffX2_33 dX2_soundsIn_22 hT12 hA12 rfl (hP12_7 q) (by decide) ?_
    refine hz_getP (pc := 25) C (v := 20) ffX2_102 dX2_soundsIn_25 hT19 hA19 rfl (hP19_0 q) (by decide) ?_
    refine hz_iload_n (pc := 28) C dX2_soundsIn_28 rfl ?_
    refine hz_iald (pc := 29) C (v := nI (u (94 + k))) (j := k) dX2_soundsIn_29 hT20 hA20 rfl (by omega) (by decide) (hv_ba V (by omega)) ?_
    refine kc_so (pc := 30) (k := u (65 + k)) (st := []) C fvX2_130_X6 fvX2_130_X4 fvX2_130_X9 fvX2_130_X0 fvX2_130_X5 fvX2_130_X1 (by omega) dX2_soundsIn_30 rfl (Nat.le_of_ble_eq_true rfl) (by decide) ?_
    refine hz_ifb_eq (pc := 33) C (tgt := 40) dX2_soundsIn_33 rfl (fun c2 => ?_) (fun c2 => ?_)
    · refine hz_iconst (pc := 40) C (v := nI 0) dX2_soundsIn_40 (by decide +kernel) ?_
      exact hz_zret C Z rfl (by decide +kernel) dX2_soundsIn_41 (hz_b0 (by simp [sin, c1, c2])).symm rfl
    · refine hz_iconst (pc := 36) C (v := nI 1) dX2_soundsIn_36 (by decide +kernel) ?_
      refine hz_goto (pc := 37) C (tgt := 41) dX2_soundsIn_37 rfl ?_
      exact hz_zret C Z rfl (by decide +kernel) dX2_soundsIn_41 (hz_b1 (by simp [sin, c1, c2])).symm rfl
set_option maxHeartbeats 4000000 in
set_option maxRecDepth 100000 in
theorem ev_door {I : Nat → Nat → Int32} {L : Nat → Nat → Int64} {q : Nat → Nat → Nat} {u : Nat → Nat} (V : HV 12 q I u) (U : WU u) {a b : Nat} (ha : a < 8) (hb : b < 8) : hz_Ev mX2_doorBetween TT NN (I, L, PP q) [.ref 12, .int (nI a), .int (nI b)] 0 0 (some (.int (dv (u (8 * a + b))))) TT NN (I, L, PP q) := by
  refine hz_Ev.intro (ls := [some (.ref 12), some (.int (nI a)), some (.int (nI b))]) (by decide +kernel) rfl (Nat.le_of_ble_eq_true rfl) (fun X C Z _ => ?_)
  refine hz_aload_n (pc := 0) C dX2_doorBetween_0 rfl ?_
  refine hz_getP (pc := 1) C (v := 13) ffX2_9 dX2_doorBetween_1 hT12 hA12 rfl (hP12_1 q) (by decide) ?_
  refine hz_iload_n (pc := 4) C dX2_doorBetween_4 rfl ?_
  refine hz_bipush (pc := 5) C (v := nI 8) dX2_doorBetween_5 (by decide +kernel) ?_
  refine hz_imul (pc := 7) C (v := nI (a * 8)) dX2_doorBetween_7 (pk_mul _ _) ?_
  refine hz_iload_n (pc := 8) C dX2_doorBetween_8 rfl ?_
  refine hz_iadd (pc := 9) C (v := nI ((a * 8) + b)) dX2_doorBetween_9 (nI_add _ _) ?_
  refine hz_iald (pc := 10) C (v := dv (u ((a * 8) + b))) (j := (a * 8) + b) dX2_doorBetween_10 hT13 hA13 rfl (by omega) (by decide) (hv_do V (by omega)) ?_
  exact hz_iret C Z rfl dX2_doorBetween_11 (by rw [Nat.mul_comm 8 a]) rfl
set_option maxHeartbeats 4000000 in
set_option maxRecDepth 100000 in
theorem ev_reaches {I : Nat → Nat → Int32} {L : Nat → Nat → Int64} {q : Nat → Nat → Nat} {u : Nat → Nat} (V : HV 12 q I u) (U : WU u) {k : Nat} (hk : k < u 64) {r : Nat} (hr : r < 8) : hz_Ev mX2_reaches TT NN (I, L, PP q) [.ref 12, .int (nI r), .int (nI k)] 0 0 (some (.int (hz_b (rch u r k = true)))) TT NN (ms u I, L, PP q) := by
  have hal := wu_al U
  have hkd := wu_kd U hk
  have hrm := wu_rm U hk
  have hlo := lo_le (u (65 + k))
  have hds := ds_le U hr hrm
  refine hz_Ev.intro (ls := [some (.ref 12), some (.int (nI r)), some (.int (nI k))]) (by decide +kernel) rfl (Nat.le_of_ble_eq_true rfl) (fun X C Z _ => ?_)
  refine hz_aload_n (pc := 0) C dX2_reaches_0 rfl ?_
  refine hz_iload_n (pc := 1) C dX2_reaches_1 rfl ?_
  refine hz_callVs (pc := 2) C (as := [.int (nI k)]) (st := []) (ev_kindOf V U (k := k) (by omega)) (hz_new0 _ _) fyX2_kindOf fvX2_118 rfl dX2_reaches_2 hT12 rfl rfl hA12 rfl rfl (Nat.le_of_ble_eq_true rfl) (by decide) (hz_cap0 _) ?_
  refine kc_lo (pc := 5) (k := u (65 + k)) (st := []) C fvX2_134_X6 fvX2_134_X4 fvX2_134_X9 fvX2_134_X0 fvX2_134_X5 fvX2_134_X1 (by omega) dX2_reaches_5 rfl (Nat.le_of_ble_eq_true rfl) (by decide) ?_
  refine hz_aload_n (pc := 8) C dX2_reaches_8 rfl ?_
  refine hz_iload_n (pc := 9) C dX2_reaches_9 rfl ?_
  refine hz_aload_n (pc := 10) C dX2_reaches_10 rfl ?_
  refine hz_getP (pc := 11) C (v := 16) ffX2_21 dX2_reaches_11 hT12 hA12 rfl (hP12_4 q) (by decide) ?_
  refine hz_iload_n (pc := 14) C dX2_reaches_14 rfl ?_
  refine hz_iald (pc := 15) C (v := nI (u (71 + k))) (j := k) dX2_reaches_15 hT16 hA16 rfl (by omega) (by decide) (hv_rm V (by omega)) ?_
  refine hz_callVs (pc := 16) C (as := [.int (nI r), .int (nI (u (71 + k)))]) (st := [.int (nI (lo_of (u (65 + k))))]) (ev_dist (L := L) V U (a := r) (b := u (71 + k)) (by omega) (by omega)) (hz_new0 _ _) fyX2_distanceBetween fvX2_138 rfl dX2_reaches_16 hT12 rfl rfl hA12 rfl rfl (Nat.le_of_ble_eq_true rfl) (by decide) (hz_cap0 _) ?_
  refine hz_ic_le (pc := 19) C (tgt := 26) dX2_reaches_19 rfl (fun c1 => ?_) (fun c1 => ?_)
  · refine hz_iconst (pc := 26) C (v := nI 0) dX2_reaches_26 (by decide +kernel) ?_
    exact hz_zret C Z rfl (by decide +kernel) dX2_reaches_27 (hz_b0 (by have h9 := (nI_leI (by omega) (by omega)).mp c1; simp [rch]; omega)).symm rfl
  · refine hz_iconst (pc := 22) C (v := nI 1) dX2_reaches_22 (by decide +kernel) ?_
    refine hz_goto (pc := 23) C (tgt := 27) dX2_reaches_23 rfl ?_
    exact hz_zret C Z rfl (by decide +kernel) dX2_reaches_27 (hz_b1 (by simp only [rch, decide_eq_true_eq]; exact Nat.lt_of_not_le fun h => c1 ((nI_leI (by omega) (by omega)).mpr h))).symm rfl

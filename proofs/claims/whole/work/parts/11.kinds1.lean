set_option maxHeartbeats 4000000 in
set_option maxRecDepth 100000 in
theorem ev_so_X6 {T : hz_T} {n : Nat} (M : hz_M) {a kc N : Nat} {rr : vw_C} (hTa : T a = (kc, N)) (hc : vwCl[kc]? = some rr) (ha : a ≠ 0 ∧ a ≤ n) (s c b : Int32) : hz_Ev mX6_sounds T n M [.ref a, .int s, .int c, .int b] 0 0 (some (.int (hz_b (so_pl s c b = true)))) T n M := by
  refine hz_Ev.intro (ls := [some (.ref a), some (.int s), some (.int c), some (.int b)]) (by decide +kernel) rfl (Nat.le_of_ble_eq_true rfl) (fun X C Z _ => ?_)
  refine hz_iload_n (pc := 0) C dX6_sounds_0 rfl ?_
  refine hz_bipush (pc := 1) C (v := nI 41) dX6_sounds_1 (by decide +kernel) ?_
  refine hz_irem (pc := 3) C (v := hz_rem s (nI 41)) dX6_sounds_3 (by decide +kernel) rfl ?_
  refine hz_if_ne (pc := 4) C (tgt := 19) dX6_sounds_4 rfl (fun c1 => ?_) (fun c1 => ?_)
  · refine hz_iconst (pc := 19) C (v := nI 0) dX6_sounds_19 (by decide +kernel) ?_
    exact hz_zret C Z rfl (by decide +kernel) dX6_sounds_20 (hz_b0 (by simp [so_pl, so_old, so_wi, so_ph, so_fr, nI_0, c1] <;> simp_all [so_pl, so_old, so_wi, so_ph, so_fr, nI_0])).symm rfl
  · refine hz_iload_n (pc := 7) C dX6_sounds_7 rfl ?_
    refine hz_iload_n (pc := 8) C dX6_sounds_8 rfl ?_
    refine hz_isub (pc := 9) C dX6_sounds_9 rfl ?_
    refine hz_bipush (pc := 10) C (v := nI 20) dX6_sounds_10 (by decide +kernel) ?_
    refine hz_ic_ge (pc := 12) C (tgt := 19) dX6_sounds_12 rfl (fun c2 => ?_) (fun c2 => ?_)
    · refine hz_iconst (pc := 19) C (v := nI 0) dX6_sounds_19 (by decide +kernel) ?_
      exact hz_zret C Z rfl (by decide +kernel) dX6_sounds_20 (hz_b0 (by simp [so_pl, so_old, so_wi, so_ph, so_fr, nI_0, c1, c2] <;> simp_all [so_pl, so_old, so_wi, so_ph, so_fr, nI_0])).symm rfl
    · refine hz_iconst (pc := 15) C (v := nI 1) dX6_sounds_15 (by decide +kernel) ?_
      refine hz_goto (pc := 16) C (tgt := 20) dX6_sounds_16 rfl ?_
      exact hz_zret C Z rfl (by decide +kernel) dX6_sounds_20 (hz_b1 (by simp [so_pl, so_old, so_wi, so_ph, so_fr, nI_0, c1, c2] <;> simp_all [so_pl, so_old, so_wi, so_ph, so_fr, nI_0])).symm rfl
set_option maxHeartbeats 4000000 in
set_option maxRecDepth 100000 in
theorem ev_so_X4 {T : hz_T} {n : Nat} (M : hz_M) {a kc N : Nat} {rr : vw_C} (hTa : T a = (kc, N)) (hc : vwCl[kc]? = some rr) (ha : a ≠ 0 ∧ a ≤ n) (s c b : Int32) : hz_Ev mX4_sounds T n M [.ref a, .int s, .int c, .int b] 0 0 (some (.int (hz_b (so_old s c b = true)))) T n M := by
  refine hz_Ev.intro (ls := [some (.ref a), some (.int s), some (.int c), some (.int b)]) (by decide +kernel) rfl (Nat.le_of_ble_eq_true rfl) (fun X C Z _ => ?_)
  refine hz_aload_n (pc := 0) C dX4_sounds_0 rfl ?_
  refine hz_iload_n (pc := 1) C dX4_sounds_1 rfl ?_
  refine hz_iload_n (pc := 2) C dX4_sounds_2 rfl ?_
  refine hz_iload_n (pc := 3) C dX4_sounds_3 rfl ?_
  refine hz_bipush (pc := 4) C (v := nI 10) dX4_sounds_4 (by decide +kernel) ?_
  refine hz_isub (pc := 6) C dX4_sounds_6 rfl ?_
  refine hz_callSUs (pc := 7) C (as := [.int s, .int c, .int (b - (nI 10))]) (st := []) (ev_so_X6 M hTa hc ha s c (b - (nI 10))) (hz_new0 _ _) fyX6_sounds fpX4_7 rfl dX4_sounds_7 hTa hc ha rfl rfl (Nat.le_of_ble_eq_true rfl) (by decide) (hz_cap0 _) ?_
  exact hz_zret C Z rfl (hz_bn _) dX4_sounds_10 rfl rfl
set_option maxHeartbeats 4000000 in
set_option maxRecDepth 100000 in
theorem ev_so_X9 {T : hz_T} {n : Nat} (M : hz_M) {a kc N : Nat} {rr : vw_C} (hTa : T a = (kc, N)) (hc : vwCl[kc]? = some rr) (ha : a ≠ 0 ∧ a ≤ n) (s c b : Int32) : hz_Ev mX9_sounds T n M [.ref a, .int s, .int c, .int b] 0 0 (some (.int (hz_b (so_wi s c b = true)))) T n M := by
  refine hz_Ev.intro (ls := [some (.ref a), some (.int s), some (.int c), some (.int b)]) (by decide +kernel) rfl (Nat.le_of_ble_eq_true rfl) (fun X C Z _ => ?_)
  refine hz_aload_n (pc := 0) C dX9_sounds_0 rfl ?_
  refine hz_iload_n (pc := 1) C dX9_sounds_1 rfl ?_
  refine hz_iload_n (pc := 2) C dX9_sounds_2 rfl ?_
  refine hz_iload_n (pc := 3) C dX9_sounds_3 rfl ?_
  refine hz_callSUs (pc := 4) C (as := [.int s, .int c, .int b]) (st := []) (ev_so_X6 M hTa hc ha s c b) (hz_new0 _ _) fyX6_sounds fpX9_7 rfl dX9_sounds_4 hTa hc ha rfl rfl (Nat.le_of_ble_eq_true rfl) (by decide) (hz_cap0 _) ?_
  refine hz_ifb_ne (pc := 7) C (tgt := 27) dX9_sounds_7 rfl (fun c1 => ?_) (fun c1 => ?_)
  · refine hz_iconst (pc := 27) C (v := nI 1) dX9_sounds_27 (by decide +kernel) ?_
    refine hz_goto (pc := 28) C (tgt := 32) dX9_sounds_28 rfl ?_
    exact hz_zret C Z rfl (by decide +kernel) dX9_sounds_32 (hz_b1 (by simp [so_pl, so_old, so_wi, so_ph, so_fr, nI_0, c1] <;> simp_all [so_pl, so_old, so_wi, so_ph, so_fr, nI_0])).symm rfl
  · refine hz_iload_n (pc := 10) C dX9_sounds_10 rfl ?_
    refine hz_bipush (pc := 11) C (v := nI 41) dX9_sounds_11 (by decide +kernel) ?_
    refine hz_irem (pc := 13) C (v := hz_rem s (nI 41)) dX9_sounds_13 (by decide +kernel) rfl ?_
    refine hz_bipush (pc := 14) C (v := nI 20) dX9_sounds_14 (by decide +kernel) ?_
    refine hz_ic_ne (pc := 16) C (tgt := 31) dX9_sounds_16 rfl (fun c2 => ?_) (fun c2 => ?_)
    · refine hz_iconst (pc := 31) C (v := nI 0) dX9_sounds_31 (by decide +kernel) ?_
      exact hz_zret C Z rfl (by decide +kernel) dX9_sounds_32 (hz_b0 (by simp [so_pl, so_old, so_wi, so_ph, so_fr, nI_0, c1, c2] <;> simp_all [so_pl, so_old, so_wi, so_ph, so_fr, nI_0])).symm rfl
    · refine hz_iload_n (pc := 19) C dX9_sounds_19 rfl ?_
      refine hz_iload_n (pc := 20) C dX9_sounds_20 rfl ?_
      refine hz_isub (pc := 21) C dX9_sounds_21 rfl ?_
      refine hz_bipush (pc := 22) C (v := nI 10) dX9_sounds_22 (by decide +kernel) ?_
      refine hz_ic_ge (pc := 24) C (tgt := 31) dX9_sounds_24 rfl (fun c3 => ?_) (fun c3 => ?_)
      · refine hz_iconst (pc := 31) C (v := nI 0) dX9_sounds_31 (by decide +kernel) ?_
        exact hz_zret C Z rfl (by decide +kernel) dX9_sounds_32 (hz_b0 (by simp [so_pl, so_old, so_wi, so_ph, so_fr, nI_0, c1, c2, c3] <;> simp_all [so_pl, so_old, so_wi, so_ph, so_fr, nI_0])).symm rfl
      · refine hz_iconst (pc := 27) C (v := nI 1) dX9_sounds_27 (by decide +kernel) ?_
        refine hz_goto (pc := 28) C (tgt := 32) dX9_sounds_28 rfl ?_
        exact hz_zret C Z rfl (by decide +kernel) dX9_sounds_32 (hz_b1 (by simp [so_pl, so_old, so_wi, so_ph, so_fr, nI_0, c1, c2, c3] <;> simp_all [so_pl, so_old, so_wi, so_ph, so_fr, nI_0])).symm rfl
set_option maxHeartbeats 4000000 in
set_option maxRecDepth 100000 in
theorem ev_so_X5 {T : hz_T} {n : Nat} (M : hz_M) {a kc N : Nat} {rr : vw_C} (hTa : T a = (kc, N)) (hc : vwCl[kc]? = some rr) (ha : a ≠ 0 ∧ a ≤ n) (s c b : Int32) : hz_Ev mX5_sounds T n M [.ref a, .int s, .int c, .int b] 0 0 (some (.int (hz_b (so_ph s = true)))) T n M := by
  refine hz_Ev.intro (ls := [some (.ref a), some (.int s), some (.int c), some (.int b)]) (by decide +kernel) rfl (Nat.le_of_ble_eq_true rfl) (fun X C Z _ => ?_)
  refine hz_iload_n (pc := 0) C dX5_sounds_0 rfl ?_
  refine hz_bipush (pc := 1) C (v := nI 30) dX5_sounds_1 (by decide +kernel) ?_
  refine hz_irem (pc := 3) C (v := hz_rem s (nI 30)) dX5_sounds_3 (by decide +kernel) rfl ?_
  refine hz_bipush (pc := 4) C (v := nI 7) dX5_sounds_4 (by decide +kernel) ?_
  refine hz_ic_ne (pc := 6) C (tgt := 13) dX5_sounds_6 rfl (fun c1 => ?_) (fun c1 => ?_)
  · refine hz_iconst (pc := 13) C (v := nI 0) dX5_sounds_13 (by decide +kernel) ?_
    exact hz_zret C Z rfl (by decide +kernel) dX5_sounds_14 (hz_b0 (by simp [so_pl, so_old, so_wi, so_ph, so_fr, nI_0, c1] <;> simp_all [so_pl, so_old, so_wi, so_ph, so_fr, nI_0])).symm rfl
  · refine hz_iconst (pc := 9) C (v := nI 1) dX5_sounds_9 (by decide +kernel) ?_
    refine hz_goto (pc := 10) C (tgt := 14) dX5_sounds_10 rfl ?_
    exact hz_zret C Z rfl (by decide +kernel) dX5_sounds_14 (hz_b1 (by simp [so_pl, so_old, so_wi, so_ph, so_fr, nI_0, c1] <;> simp_all [so_pl, so_old, so_wi, so_ph, so_fr, nI_0])).symm rfl
set_option maxHeartbeats 4000000 in
set_option maxRecDepth 100000 in
theorem ev_so_X1 {T : hz_T} {n : Nat} (M : hz_M) {a kc N : Nat} {rr : vw_C} (hTa : T a = (kc, N)) (hc : vwCl[kc]? = some rr) (ha : a ≠ 0 ∧ a ≤ n) (s c b : Int32) : hz_Ev mX1_sounds T n M [.ref a, .int s, .int c, .int b] 0 0 (some (.int (hz_b (so_fr s c b = true)))) T n M := by
  refine hz_Ev.intro (ls := [some (.ref a), some (.int s), some (.int c), some (.int b)]) (by decide +kernel) rfl (Nat.le_of_ble_eq_true rfl) (fun X C Z _ => ?_)
  refine hz_iload_n (pc := 0) C dX1_sounds_0 rfl ?_
  refine hz_iconst (pc := 1) C (v := nI 5) dX1_sounds_1 (by decide +kernel) ?_
  refine hz_ic_lt (pc := 2) C (tgt := 19) dX1_sounds_2 rfl (fun c1 => ?_) (fun c1 => ?_)
  · refine hz_iconst (pc := 19) C (v := nI 0) dX1_sounds_19 (by decide +kernel) ?_
    exact hz_zret C Z rfl (by decide +kernel) dX1_sounds_20 (hz_b0 (by simp [so_pl, so_old, so_wi, so_ph, so_fr, nI_0, c1] <;> simp_all [so_pl, so_old, so_wi, so_ph, so_fr, nI_0])).symm rfl
  · refine hz_aload_n (pc := 5) C dX1_sounds_5 rfl ?_
    refine hz_iload_n (pc := 6) C dX1_sounds_6 rfl ?_
    refine hz_iload_n (pc := 7) C dX1_sounds_7 rfl ?_
    refine hz_iload_n (pc := 8) C dX1_sounds_8 rfl ?_
    refine hz_callSUs (pc := 9) C (as := [.int s, .int c, .int b]) (st := []) (ev_so_X4 M hTa hc ha s c b) (hz_new0 _ _) fyX4_sounds fpX1_7 rfl dX1_sounds_9 hTa hc ha rfl rfl (Nat.le_of_ble_eq_true rfl) (by decide) (hz_cap0 _) ?_
    refine hz_ifb_eq (pc := 12) C (tgt := 19) dX1_sounds_12 rfl (fun c2 => ?_) (fun c2 => ?_)
    · refine hz_iconst (pc := 19) C (v := nI 0) dX1_sounds_19 (by decide +kernel) ?_
      exact hz_zret C Z rfl (by decide +kernel) dX1_sounds_20 (hz_b0 (by simp [so_pl, so_old, so_wi, so_ph, so_fr, nI_0, c1, c2] <;> simp_all [so_pl, so_old, so_wi, so_ph, so_fr, nI_0])).symm rfl
    · refine hz_iconst (pc := 15) C (v := nI 1) dX1_sounds_15 (by decide +kernel) ?_
      refine hz_goto (pc := 16) C (tgt := 20) dX1_sounds_16 rfl ?_
      exact hz_zret C Z rfl (by decide +kernel) dX1_sounds_20 (hz_b1 (by simp [so_pl, so_old, so_wi, so_ph, so_fr, nI_0, c1, c2] <;> simp_all [so_pl, so_old, so_wi, so_ph, so_fr, nI_0])).symm rfl
set_option maxHeartbeats 4000000 in
set_option maxRecDepth 100000 in
theorem ev_lo_X6 {T : hz_T} {n : Nat} (M : hz_M) {a kc N : Nat} {rr : vw_C} (hTa : T a = (kc, N)) (hc : vwCl[kc]? = some rr) (ha : a ≠ 0 ∧ a ≤ n) : hz_Ev mX6_loud T n M [.ref a] 0 0 (some (.int (nI 20))) T n M := by
  refine hz_Ev.intro (ls := [some (.ref a)]) (by decide +kernel) rfl (Nat.le_of_ble_eq_true rfl) (fun X C Z _ => ?_)
  refine hz_bipush (pc := 0) C (v := nI 20) dX6_loud_0 (by decide +kernel) ?_
  exact hz_iret C Z rfl dX6_loud_2 rfl rfl
set_option maxHeartbeats 4000000 in
set_option maxRecDepth 100000 in
theorem ev_lo_X9 {T : hz_T} {n : Nat} (M : hz_M) {a kc N : Nat} {rr : vw_C} (hTa : T a = (kc, N)) (hc : vwCl[kc]? = some rr) (ha : a ≠ 0 ∧ a ≤ n) : hz_Ev mX9_loud T n M [.ref a] 0 0 (some (.int (nI 40))) T n M := by
  refine hz_Ev.intro (ls := [some (.ref a)]) (by decide +kernel) rfl (Nat.le_of_ble_eq_true rfl) (fun X C Z _ => ?_)
  refine hz_iconst (pc := 0) C (v := nI 2) dX9_loud_0 (by decide +kernel) ?_
  refine hz_aload_n (pc := 1) C dX9_loud_1 rfl ?_
  refine hz_callSUs (pc := 2) C (as := []) (st := [.int (nI 2)]) (ev_lo_X6 M hTa hc ha) (hz_new0 _ _) fyX6_loud fpX9_11 rfl dX9_loud_2 hTa hc ha rfl rfl (Nat.le_of_ble_eq_true rfl) (by decide) (hz_cap0 _) ?_
  refine hz_imul (pc := 5) C (v := nI 40) dX9_loud_5 (pk_mul _ _) ?_
  exact hz_iret C Z rfl dX9_loud_6 rfl rfl
set_option maxHeartbeats 4000000 in
set_option maxRecDepth 100000 in
theorem ev_lo_X0 {T : hz_T} {n : Nat} (M : hz_M) {a kc N : Nat} {rr : vw_C} (hTa : T a = (kc, N)) (hc : vwCl[kc]? = some rr) (ha : a ≠ 0 ∧ a ≤ n) : hz_Ev mX0_loud T n M [.ref a] 0 0 (some (.int (nI 8))) T n M := by
  refine hz_Ev.intro (ls := [some (.ref a)]) (by decide +kernel) rfl (Nat.le_of_ble_eq_true rfl) (fun X C Z _ => ?_)
  refine hz_aload_n (pc := 0) C dX0_loud_0 rfl ?_
  refine hz_callSUs (pc := 1) C (as := []) (st := []) (ev_lo_X6 M hTa hc ha) (hz_new0 _ _) fyX6_loud fpX0_7 rfl dX0_loud_1 hTa hc ha rfl rfl (Nat.le_of_ble_eq_true rfl) (by decide) (hz_cap0 _) ?_
  refine hz_bipush (pc := 4) C (v := nI 12) dX0_loud_4 (by decide +kernel) ?_
  refine hz_isub (pc := 6) C (v := nI 8) dX0_loud_6 (by decide +kernel) ?_
  exact hz_iret C Z rfl dX0_loud_7 rfl rfl
set_option maxHeartbeats 4000000 in
set_option maxRecDepth 100000 in
theorem ev_lo_X5 {T : hz_T} {n : Nat} (M : hz_M) {a kc N : Nat} {rr : vw_C} (hTa : T a = (kc, N)) (hc : vwCl[kc]? = some rr) (ha : a ≠ 0 ∧ a ≤ n) : hz_Ev mX5_loud T n M [.ref a] 0 0 (some (.int (nI 9))) T n M := by
  refine hz_Ev.intro (ls := [some (.ref a)]) (by decide +kernel) rfl (Nat.le_of_ble_eq_true rfl) (fun X C Z _ => ?_)
  refine hz_aload_n (pc := 0) C dX5_loud_0 rfl ?_
  refine hz_callSUs (pc := 1) C (as := []) (st := []) (ev_lo_X0 M hTa hc ha) (hz_new0 _ _) fyX0_loud fpX5_7 rfl dX5_loud_1 hTa hc ha rfl rfl (Nat.le_of_ble_eq_true rfl) (by decide) (hz_cap0 _) ?_
  refine hz_iconst (pc := 4) C (v := nI 1) dX5_loud_4 (by decide +kernel) ?_
  refine hz_iadd (pc := 5) C (v := nI 9) dX5_loud_5 (nI_add _ _) ?_
  exact hz_iret C Z rfl dX5_loud_6 rfl rfl
set_option maxHeartbeats 4000000 in
set_option maxRecDepth 100000 in
theorem ev_sd_X6 {T : hz_T} {n : Nat} (M : hz_M) {a kc N : Nat} {rr : vw_C} (hTa : T a = (kc, N)) (hc : vwCl[kc]? = some rr) (ha : a ≠ 0 ∧ a ≤ n) : hz_Ev mX6_soundsDown T n M [.ref a] 0 0 (some (.int (nI 0))) T n M := by
  refine hz_Ev.intro (ls := [some (.ref a)]) (by decide +kernel) rfl (Nat.le_of_ble_eq_true rfl) (fun X C Z _ => ?_)
  refine hz_iconst (pc := 0) C (v := nI 0) dX6_soundsDown_0 (by decide +kernel) ?_
  exact hz_zret C Z rfl (by decide +kernel) dX6_soundsDown_1 rfl rfl
set_option maxHeartbeats 4000000 in
set_option maxRecDepth 100000 in
theorem ev_sd_X0 {T : hz_T} {n : Nat} (M : hz_M) {a kc N : Nat} {rr : vw_C} (hTa : T a = (kc, N)) (hc : vwCl[kc]? = some rr) (ha : a ≠ 0 ∧ a ≤ n) : hz_Ev mX0_soundsDown T n M [.ref a] 0 0 (some (.int (nI 1))) T n M := by
  refine hz_Ev.intro (ls := [some (.ref a)]) (by decide +kernel) rfl (Nat.le_of_ble_eq_true rfl) (fun X C Z _ => ?_)
  refine hz_iconst (pc := 0) C (v := nI 1) dX0_soundsDown_0 (by decide +kernel) ?_
  exact hz_zret C Z rfl (by decide +kernel) dX0_soundsDown_1 rfl rfl
set_option maxHeartbeats 4000000 in
set_option maxRecDepth 100000 in
theorem kc_so {X : hz_X} {y : hz_Y} {M : hz_M} {pc ix k : Nat} {ls : List (Option Value)} {st : List Value} {s c b : Int32} (C : hz_C X y) (F0 : hz_FV y.1.cls ix mX6_sounds) (F1 : hz_FU y.1.cls ix RX4 RX6 yX6_sounds mX4_sounds) (F2 : hz_FU y.1.cls ix RX9 RX6 yX6_sounds mX9_sounds) (F3 : hz_FU y.1.cls ix RX0 RX6 yX6_sounds mX6_sounds) (F4 : hz_FU y.1.cls ix RX5 RX6 yX6_sounds mX5_sounds) (F5 : hz_FU y.1.cls ix RX1 RX6 yX6_sounds mX1_sounds) (hk : k < 6) (d : decode y.2.1 pc = .ok (.invokevirtual ix, 3)) (hlen : ls.length = y.2.2.1) (hsum : (st.map Value.category).sum ≤ 8) (hd : 3 ≤ y.2.2.2.2) (kk : hz_G X TT NN M 0 0 (pc + 3) ls (.int (hz_b (so_of k s c b = true)) :: st)) : hz_G X TT NN M 0 0 pc ls (.int b :: .int c :: .int s :: .ref (23 + k) :: st) := by
  rcases (show k = 0 ∨ k = 1 ∨ k = 2 ∨ k = 3 ∨ k = 4 ∨ k = 5 by omega) with rfl | rfl | rfl | rfl | rfl | rfl
  · exact hz_callV C (as := [.int s, .int c, .int b]) (st := st) (ev_so_X6 M hT23 (rr := (RX6, TX6, 0)) rfl hA23 s c b) (hz_new0 _ _) fyX6_sounds F0 rfl d hT23 rfl rfl hA23 rfl hlen hsum (Nat.le_trans (by decide) hd) (hz_cap0 _) kk
  · exact hz_callU C (as := [.int s, .int c, .int b]) (st := st) (ev_so_X4 M hT24 (rr := (RX4, TX4, 0)) rfl hA24 s c b) (hz_new0 _ _) fyX4_sounds F1 rfl d hT24 rfl hA24 rfl hlen hsum (Nat.le_trans (by decide) hd) (hz_cap0 _) kk
  · exact hz_callU C (as := [.int s, .int c, .int b]) (st := st) (ev_so_X9 M hT25 (rr := (RX9, TX9, 0)) rfl hA25 s c b) (hz_new0 _ _) fyX9_sounds F2 rfl d hT25 rfl hA25 rfl hlen hsum (Nat.le_trans (by decide) hd) (hz_cap0 _) kk
  · exact hz_callU C (as := [.int s, .int c, .int b]) (st := st) (ev_so_X6 M hT26 (rr := (RX0, TX0, 0)) rfl hA26 s c b) (hz_new0 _ _) fyX6_sounds F3 rfl d hT26 rfl hA26 rfl hlen hsum (Nat.le_trans (by decide) hd) (hz_cap0 _) kk
  · exact hz_callU C (as := [.int s, .int c, .int b]) (st := st) (ev_so_X5 M hT27 (rr := (RX5, TX5, 0)) rfl hA27 s c b) (hz_new0 _ _) fyX5_sounds F4 rfl d hT27 rfl hA27 rfl hlen hsum (Nat.le_trans (by decide) hd) (hz_cap0 _) kk
  · exact hz_callU C (as := [.int s, .int c, .int b]) (st := st) (ev_so_X1 M hT28 (rr := (RX1, TX1, 0)) rfl hA28 s c b) (hz_new0 _ _) fyX1_sounds F5 rfl d hT28 rfl hA28 rfl hlen hsum (Nat.le_trans (by decide) hd) (hz_cap0 _) kk
set_option maxHeartbeats 4000000 in
set_option maxRecDepth 100000 in
theorem kc_lo {X : hz_X} {y : hz_Y} {M : hz_M} {pc ix k : Nat} {ls : List (Option Value)} {st : List Value}  (C : hz_C X y) (F0 : hz_FV y.1.cls ix mX6_loud) (F1 : hz_FU y.1.cls ix RX4 RX6 yX6_loud mX6_loud) (F2 : hz_FU y.1.cls ix RX9 RX6 yX6_loud mX9_loud) (F3 : hz_FU y.1.cls ix RX0 RX6 yX6_loud mX0_loud) (F4 : hz_FU y.1.cls ix RX5 RX6 yX6_loud mX5_loud) (F5 : hz_FU y.1.cls ix RX1 RX6 yX6_loud mX6_loud) (hk : k < 6) (d : decode y.2.1 pc = .ok (.invokevirtual ix, 3)) (hlen : ls.length = y.2.2.1) (hsum : (st.map Value.category).sum ≤ 8) (hd : 3 ≤ y.2.2.2.2) (kk : hz_G X TT NN M 0 0 (pc + 3) ls (.int (nI (lo_of k)) :: st)) : hz_G X TT NN M 0 0 pc ls (.ref (23 + k) :: st) := by
  rcases (show k = 0 ∨ k = 1 ∨ k = 2 ∨ k = 3 ∨ k = 4 ∨ k = 5 by omega) with rfl | rfl | rfl | rfl | rfl | rfl
  · exact hz_callV C (as := []) (st := st) (ev_lo_X6 M hT23 (rr := (RX6, TX6, 0)) rfl hA23) (hz_new0 _ _) fyX6_loud F0 rfl d hT23 rfl rfl hA23 rfl hlen hsum (Nat.le_trans (by decide) hd) (hz_cap0 _) kk
  · exact hz_callU C (as := []) (st := st) (ev_lo_X6 M hT24 (rr := (RX4, TX4, 0)) rfl hA24) (hz_new0 _ _) fyX6_loud F1 rfl d hT24 rfl hA24 rfl hlen hsum (Nat.le_trans (by decide) hd) (hz_cap0 _) kk
  · exact hz_callU C (as := []) (st := st) (ev_lo_X9 M hT25 (rr := (RX9, TX9, 0)) rfl hA25) (hz_new0 _ _) fyX9_loud F2 rfl d hT25 rfl hA25 rfl hlen hsum (Nat.le_trans (by decide) hd) (hz_cap0 _) kk
  · exact hz_callU C (as := []) (st := st) (ev_lo_X0 M hT26 (rr := (RX0, TX0, 0)) rfl hA26) (hz_new0 _ _) fyX0_loud F3 rfl d hT26 rfl hA26 rfl hlen hsum (Nat.le_trans (by decide) hd) (hz_cap0 _) kk
  · exact hz_callU C (as := []) (st := st) (ev_lo_X5 M hT27 (rr := (RX5, TX5, 0)) rfl hA27) (hz_new0 _ _) fyX5_loud F4 rfl d hT27 rfl hA27 rfl hlen hsum (Nat.le_trans (by decide) hd) (hz_cap0 _) kk
  · exact hz_callU C (as := []) (st := st) (ev_lo_X6 M hT28 (rr := (RX1, TX1, 0)) rfl hA28) (hz_new0 _ _) fyX6_loud F5 rfl d hT28 rfl hA28 rfl hlen hsum (Nat.le_trans (by decide) hd) (hz_cap0 _) kk
set_option maxHeartbeats 4000000 in
set_option maxRecDepth 100000 in
theorem kc_sd {X : hz_X} {y : hz_Y} {M : hz_M} {pc ix k : Nat} {ls : List (Option Value)} {st : List Value}  (C : hz_C X y) (F0 : hz_FV y.1.cls ix mX6_soundsDown) (F1 : hz_FU y.1.cls ix RX4 RX6 yX6_soundsDown mX6_soundsDown) (F2 : hz_FU y.1.cls ix RX9 RX6 yX6_soundsDown mX6_soundsDown) (F3 : hz_FU y.1.cls ix RX0 RX6 yX6_soundsDown mX0_soundsDown) (F4 : hz_FU y.1.cls ix RX5 RX6 yX6_soundsDown mX0_soundsDown) (F5 : hz_FU y.1.cls ix RX1 RX6 yX6_soundsDown mX6_soundsDown) (hk : k < 6) (d : decode y.2.1 pc = .ok (.invokevirtual ix, 3)) (hlen : ls.length = y.2.2.1) (hsum : (st.map Value.category).sum ≤ 8) (hd : 1 ≤ y.2.2.2.2) (kk : hz_G X TT NN M 0 0 (pc + 3) ls (.int (hz_b (sd_of k = true)) :: st)) : hz_G X TT NN M 0 0 pc ls (.ref (23 + k) :: st) := by
  rcases (show k = 0 ∨ k = 1 ∨ k = 2 ∨ k = 3 ∨ k = 4 ∨ k = 5 by omega) with rfl | rfl | rfl | rfl | rfl | rfl
  · exact hz_callV C (as := []) (st := st) (ev_sd_X6 M hT23 (rr := (RX6, TX6, 0)) rfl hA23) (hz_new0 _ _) fyX6_soundsDown F0 rfl d hT23 rfl rfl hA23 rfl hlen hsum (Nat.le_trans (by decide) hd) (hz_cap0 _) kk
  · exact hz_callU C (as := []) (st := st) (ev_sd_X6 M hT24 (rr := (RX4, TX4, 0)) rfl hA24) (hz_new0 _ _) fyX6_soundsDown F1 rfl d hT24 rfl hA24 rfl hlen hsum (Nat.le_trans (by decide) hd) (hz_cap0 _) kk
  · exact hz_callU C (as := []) (st := st) (ev_sd_X6 M hT25 (rr := (RX9, TX9, 0)) rfl hA25) (hz_new0 _ _) fyX6_soundsDown F2 rfl d hT25 rfl hA25 rfl hlen hsum (Nat.le_trans (by decide) hd) (hz_cap0 _) kk
  · exact hz_callU C (as := []) (st := st) (ev_sd_X0 M hT26 (rr := (RX0, TX0, 0)) rfl hA26) (hz_new0 _ _) fyX0_soundsDown F3 rfl d hT26 rfl hA26 rfl hlen hsum (Nat.le_trans (by decide) hd) (hz_cap0 _) kk
  · exact hz_callU C (as := []) (st := st) (ev_sd_X0 M hT27 (rr := (RX5, TX5, 0)) rfl hA27) (hz_new0 _ _) fyX0_soundsDown F4 rfl d hT27 rfl hA27 rfl hlen hsum (Nat.le_trans (by decide) hd) (hz_cap0 _) kk
  · exact hz_callU C (as := []) (st := st) (ev_sd_X6 M hT28 (rr := (RX1, TX1, 0)) rfl hA28) (hz_new0 _ _) fyX6_soundsDown F5 rfl d hT28 rfl hA28 rfl hlen hsum (Nat.le_trans (by decide) hd) (hz_cap0 _) kk

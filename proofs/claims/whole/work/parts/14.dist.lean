def ms (u : Nat → Nat) (I : Nat → Nat → Int32) : Nat → Nat → Int32 := hz_up (hz_sa I 14 (ms_A u (I 14))) 12 9 (nI 1)
def msb (b : Bool) (u : Nat → Nat) (I : Nat → Nat → Int32) : Nat → Nat → Int32 := if b = true then ms u I else I
theorem ms_at (u : Nat → Nat) (I : Nat → Nat → Int32) {a : Nat} (h1 : a ≠ 12) (h2 : a ≠ 14) : ms u I a = I a := by
  simp [ms, hz_up, hz_sa, h1, h2]
theorem ms_12 (u : Nat → Nat) (I : Nat → Nat → Int32) {k : Nat} (h : k ≠ 9) : ms u I 12 k = I 12 k := by
  simp [ms, hz_up, hz_sa, va_up, h]
theorem ms_129 (u : Nat → Nat) (I : Nat → Nat → Int32) : ms u I 12 9 = 1 := by
  simp [ms, hz_up, va_up, hz_n1]
theorem ms_14 (u : Nat → Nat) (I : Nat → Nat → Int32) {a b : Nat} (ha : a < 8) (hb : b < 8) : ms u I 14 (a * 8 + b) = nI (ds u a b) := by
  rw [← ms_A_at u (I 14) ha hb]
  simp [ms, hz_up, hz_sa]
theorem ms_id {I : Nat → Nat → Int32} {u : Nat → Nat} (h1 : I 12 9 = 1) (hd : ∀ a b, a < 8 → b < 8 → I 14 (a * 8 + b) = nI (ds u a b)) : ms u I = I := by
  funext a k
  by_cases e : a = 12
  · subst e
    by_cases e2 : k = 9
    · subst e2; rw [ms_129, h1]
    · exact ms_12 u I e2
  · by_cases e2 : a = 14
    · subst e2
      have e3 : ms u I 14 k = ms_A u (I 14) k := by simp [ms, hz_up, hz_sa]
      rw [e3]
      unfold ms_A
      by_cases hk : k < 64
      · rw [if_pos hk, ← hd (k / 8) (k % 8) (by omega) (by omega), show k / 8 * 8 + k % 8 = k by omega]
      · rw [if_neg hk]
    · rw [ms_at u I e e2]
theorem ms_ms (u : Nat → Nat) (I : Nat → Nat → Int32) : ms u (ms u I) = ms u I := ms_id (ms_129 u I) (fun _ _ ha hb => ms_14 u I ha hb)
theorem ms_msb (b : Bool) (u : Nat → Nat) (I : Nat → Nat → Int32) : ms u (msb b u I) = ms u I := by
  unfold msb
  split
  · exact ms_ms u I
  · rfl
theorem msb_ms (b : Bool) (u : Nat → Nat) (I : Nat → Nat → Int32) : msb b u (ms u I) = ms u I := by
  unfold msb
  split
  · exact ms_ms u I
  · rfl
theorem msb_msb (b c : Bool) (u : Nat → Nat) (I : Nat → Nat → Int32) : msb b u (msb c u I) = msb (c || b) u I := by
  cases b <;> cases c <;> simp [msb, ms_ms]
theorem HN_eq {m al o : Nat} {I I' : Nat → Nat → Int32} {u : Nat → Nat} (h : HN m I al u o) (e1 : I' m = I m) (e2 : I' (m + 1) = I (m + 1)) : HN m I' al u o := by
  unfold HN at *
  rw [e1, e2]
  exact h
theorem hv_ms {q : Nat → Nat → Nat} {I : Nat → Nat → Int32} {u : Nat → Nat} (V : HV 12 q I u) (U : WU u) : HV 12 q (ms u I) u := by
  obtain ⟨v1, v2, v3, v4, v5, v6, v7, v8, v9, v10, v11⟩ := V
  refine ⟨fun j h => ?_, ?_, fun k h => ?_, fun k h => ?_, ?_, fun i h => ?_, ?_, ?_, fun i h => ?_, v10, Or.inr ⟨ms_129 u I, fun a b ha hb => ms_14 u I ha hb⟩⟩
  · rw [ms_at u I (by decide) (by decide)]; exact v1 j h
  · rw [ms_12 u I (by decide)]; exact v2
  · rw [ms_at u I (by decide) (by decide)]; exact v3 k h
  · rw [ms_at u I (by decide) (by decide)]; exact v4 k h
  · rw [ms_12 u I (by decide)]; exact v5
  · rw [ms_at u I (by decide) (by decide), ms_at u I (by decide) (by decide)]; exact v6 i h
  · exact HN_eq v7 (ms_at u I (by decide) (by decide)) (ms_at u I (by decide) (by decide))
  · rw [ms_12 u I (by decide)]; exact v8
  · have hi : i < 8 := Nat.lt_of_lt_of_le h (wu_un U)
    obtain ⟨j, hj, e⟩ := v10.1 i hi
    exact HN_eq (v9 i h) (ms_at u I (by omega) (by omega)) (ms_at u I (by omega) (by omega))
set_option maxHeartbeats 4000000 in
set_option maxRecDepth 100000 in
theorem ev_measure {I : Nat → Nat → Int32} {L : Nat → Nat → Int64} {q : Nat → Nat → Nat} {u : Nat → Nat} (V : HV 12 q I u) (U : WU u) : hz_Ev mX2_measure TT NN (I, L, PP q) [.ref 12] 0 0 none TT NN (hz_sa I 14 (ms_A u (I 14)), L, PP q) := by
  refine hz_Ev.intro (ls := [some (.ref 12), none, none, none, none, none]) (by decide +kernel) rfl (Nat.le_of_ble_eq_true rfl) (fun X C Z _ => ?_)
  refine Eq.mpr (by rw [hz_sa_id]) (?_ : hz_G X TT NN (hz_sa I 14 (I 14), L, PP q) 0 0 0 [some (.ref 12), none, none, none, none, none] [])
  refine hz_iconst (pc := 0) C (v := nI 0) dX2_measure_0 (by decide +kernel) ?_
  refine hz_istore_n (pc := 1) C (ls' := [some (.ref 12), some (.int (nI 0)), none, none, none, none]) dX2_measure_1 (Nat.le_of_ble_eq_true rfl) rfl ?_
  refine lp_ms1 C V U (fun f w hf => ?_) 64 0 (I 14) (by omega) (fun j h => absurd h (Nat.not_lt_zero _))
  refine hz_iconst (pc := 45) C (v := nI 0) dX2_measure_45 (by decide +kernel) ?_
  refine hz_istore_n (pc := 46) C (ls' := [some (.ref 12), some (.int (nI 0)), none, none, none, none]) dX2_measure_46 (Nat.le_of_ble_eq_true rfl) rfl ?_
  refine lp_ms2 C V U (fun f2 w2 hf2 => ?_) 8 0 f (by omega) (fun a b ha hb => by rw [if_neg (by omega), hf (a * 8 + b) (by omega), Nat.mul_comm a 8])
  refine hz_iconst (pc := 71) C (v := nI 0) dX2_measure_71 (by decide +kernel) ?_
  refine hz_istore_n (pc := 72) C (ls' := [some (.ref 12), some (.int (nI 0)), none, none, none, none]) dX2_measure_72 (Nat.le_of_ble_eq_true rfl) rfl ?_
  refine lp_ms3 C V U (fun f3 ls3 hf3 => ?_) 8 0 f2 _ _ _ _ (by omega) (fun a b ha hb => by rw [hf2 a b ha hb, if_neg (by omega)]; rfl)
  refine hz_cong (hz_sm_sa hT14 (by decide) (by decide) (fun j hj => ?_)) (hz_vret C Z rfl dX2_measure_179 rfl)
  have h9 := hf3 (j / 8) (j % 8) (by omega) (by omega)
  rw [show j / 8 * 8 + j % 8 = j by omega, if_neg (by omega)] at h9
  rw [h9]
  unfold ms_A
  rw [if_pos hj]
  rfl
set_option maxHeartbeats 4000000 in
set_option maxRecDepth 100000 in
theorem ev_dist {I : Nat → Nat → Int32} {L : Nat → Nat → Int64} {q : Nat → Nat → Nat} {u : Nat → Nat} (V : HV 12 q I u) (U : WU u) {a b : Nat} (ha : a < 8) (hb : b < 8) : hz_Ev mX2_distanceBetween TT NN (I, L, PP q) [.ref 12, .int (nI a), .int (nI b)] 0 0 (some (.int (nI (ds u a b)))) TT NN (ms u I, L, PP q) := by
  refine hz_Ev.intro (ls := [some (.ref 12), some (.int (nI a)), some (.int (nI b))]) (by decide +kernel) rfl (Nat.le_of_ble_eq_true rfl) (fun X C Z _ => ?_)
  rcases hv_me V with h0 | ⟨h1, hd⟩
  · refine hz_aload_n (pc := 0) C dX2_distanceBetween_0 rfl ?_
    refine hz_getI (pc := 1) C (v := 0) ffX2_66 dX2_distanceBetween_1 hT12 hA12 rfl h0 ?_
    refine hz_if_ne (pc := 4) C (tgt := 16) dX2_distanceBetween_4 rfl (fun cq => absurd rfl cq) (fun _ => ?_)
    refine hz_aload_n (pc := 7) C dX2_distanceBetween_7 rfl ?_
    refine hz_callVv (pc := 8) C (as := []) (st := []) (ev_measure V U) (hz_new0 _ _) fyX2_measure fvX2_111 rfl dX2_distanceBetween_8 hT12 rfl rfl hA12 rfl rfl (Nat.le_of_ble_eq_true rfl) (by decide) (hz_cap0 _) ?_
    refine hz_aload_n (pc := 11) C dX2_distanceBetween_11 rfl ?_
    refine hz_iconst (pc := 12) C (v := nI 1) dX2_distanceBetween_12 (by decide +kernel) ?_
    refine hz_putI (pc := 13) C (M' := (hz_up (hz_sa I 14 (ms_A u (I 14))) 12 9 (nI 1), L, PP q)) ffX2_66 dX2_distanceBetween_13 hT12 hA12 rfl rfl ⟨by decide +kernel, by decide +kernel⟩ rfl ?_
    refine hz_aload_n (pc := 16) C dX2_distanceBetween_16 rfl ?_
    refine hz_getP (pc := 17) C (v := 14) ffX2_15 dX2_distanceBetween_17 hT12 hA12 rfl (hP12_2 q) (by decide) ?_
    refine hz_iload_n (pc := 20) C dX2_distanceBetween_20 rfl ?_
    refine hz_bipush (pc := 21) C (v := nI 8) dX2_distanceBetween_21 (by decide +kernel) ?_
    refine hz_imul (pc := 23) C (v := nI (a * 8)) dX2_distanceBetween_23 (pk_mul _ _) ?_
    refine hz_iload_n (pc := 24) C dX2_distanceBetween_24 rfl ?_
    refine hz_iadd (pc := 25) C (v := nI ((a * 8) + b)) dX2_distanceBetween_25 (nI_add _ _) ?_
    refine hz_iald (pc := 26) C (v := nI (ds u a b)) (j := (a * 8) + b) dX2_distanceBetween_26 hT14 hA14 rfl (by omega) (by decide) (ms_A_at u _ ha hb) ?_
    exact hz_iret C Z rfl dX2_distanceBetween_27 rfl rfl
  · refine hz_aload_n (pc := 0) C dX2_distanceBetween_0 rfl ?_
    refine hz_getI (pc := 1) C (v := 1) ffX2_66 dX2_distanceBetween_1 hT12 hA12 rfl h1 ?_
    refine hz_if_ne (pc := 4) C (tgt := 16) dX2_distanceBetween_4 rfl (fun _ => ?_) (fun cq => absurd cq (by decide))
    refine hz_aload_n (pc := 16) C dX2_distanceBetween_16 rfl ?_
    refine hz_getP (pc := 17) C (v := 14) ffX2_15 dX2_distanceBetween_17 hT12 hA12 rfl (hP12_2 q) (by decide) ?_
    refine hz_iload_n (pc := 20) C dX2_distanceBetween_20 rfl ?_
    refine hz_bipush (pc := 21) C (v := nI 8) dX2_distanceBetween_21 (by decide +kernel) ?_
    refine hz_imul (pc := 23) C (v := nI (a * 8)) dX2_distanceBetween_23 (pk_mul _ _) ?_
    refine hz_iload_n (pc := 24) C dX2_distanceBetween_24 rfl ?_
    refine hz_iadd (pc := 25) C (v := nI ((a * 8) + b)) dX2_distanceBetween_25 (nI_add _ _) ?_
    refine hz_iald (pc := 26) C (v := nI (ds u a b)) (j := (a * 8) + b) dX2_distanceBetween_26 hT14 hA14 rfl (by omega) (by decide) (hd a b ha hb) ?_
    exact hz_iret C Z rfl dX2_distanceBetween_27 rfl (by rw [ms_id h1 hd])

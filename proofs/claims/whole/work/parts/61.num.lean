def vl (t : Nat) (x : Nat → Nat) (s : Nat) : Nat := vd x (bgn t x s) (nxe t x s)
/-- a number that fits -/
def okn (t : Nat) (x : Nat → Nat) (s lo : Nat) (v : Int32) : Bool := decide (kc t x s = 2) && (decide (nxe t x s - bgn t x s ≤ 2) && (decide (¬ nI (vl t x s) < nI lo) && decide (¬ v < nI (vl t x s))))
theorem okn_i {t : Nat} {x : Nat → Nat} {s lo : Nat} {v : Int32} : okn t x s lo v = true ↔ kc t x s = 2 ∧ nxe t x s - bgn t x s ≤ 2 ∧ ¬ nI (vl t x s) < nI lo ∧ ¬ v < nI (vl t x s) := by
  unfold okn
  simp only [Bool.and_eq_true, decide_eq_true_eq]
theorem okn_v {t : Nat} {x : Nat → Nat} {s lo : Nat} {v : Int32} (h : okn t x s lo v = true) : vC t x s = nI (vl t x s) := if_pos ⟨(okn_i.mp h).1, (okn_i.mp h).2.1⟩
theorem okn_n {t : Nat} {x : Nat → Nat} {s lo : Nat} {v : Int32} (hlo : lo < 100) (h : ¬ okn t x s lo v = true) (hk : kc t x s = 2) : ¬ (¬ vC t x s < nI lo ∧ ¬ v < vC t x s) := by
  intro z
  by_cases h2 : nxe t x s - bgn t x s ≤ 2
  · have e : vC t x s = nI (vl t x s) := if_pos ⟨hk, h2⟩
    rw [e] at z
    exact h (okn_i.mpr ⟨hk, h2, z.1, z.2⟩)
  · have e : vC t x s = -1 := if_neg (fun y => h2 y.2)
    rw [e] at z
    have h9 : ∀ k, k < 100 → (-1 : Int32) < nI k := by decide +kernel
    exact z.1 (h9 lo hlo)
set_option maxHeartbeats 4000000 in
set_option maxRecDepth 100000 in
theorem ex_numY {J : Nat → Nat → Int32} {L : Nat → Nat → Int64} {q : Nat → Nat → Nat} {t : Nat} {x : Nat → Nat} (X0 : tx J t x) {s : Nat} (hs : s ≤ t) (S0 : tS J t x s) {lo : Nat} {zzv2 : Int32} (hok : okn t x s lo zzv2 = true) : hz_Ex mX8_number TT NN (J, L, PP q) [.ref 2, .int (nI lo), .int zzv2] (hz_PI L (PP q) (some (.int (nI (vl t x s)))) (fun K => tC J K ∧ tS K t x (nxe t x s))) := by
  have h150 := X0.1
  have hn := nxe_ok x hs
  have hkl := kc_le t x s
  obtain ⟨zzk1, zzk2, zzk3, zzk4⟩ := okn_i.mp hok
  refine hz_Ex.intro (ls := [some (.ref 2), some (.int (nI lo)), some (.int zzv2), none]) (by decide +kernel) rfl (Nat.le_of_ble_eq_true rfl) (fun X C Z => ?_)
  refine hz_aload_n (pc := 0) C dX8_number_0 rfl ?_
  refine hz_getI (pc := 1) C (v := nI (kc t x s)) ffX8_25 dX8_number_1 hT2 hA2 rfl S0.1 ?_
  refine hz_iconst (pc := 4) C (v := nI 2) dX8_number_4 (by decide +kernel) ?_
  refine hz_ic_ne (pc := 5) C (tgt := 20) dX8_number_5 rfl (fun cq => absurd (congrArg nI zzk1) cq) (fun _ => ?_)
  refine hz_aload_n (pc := 8) C dX8_number_8 rfl ?_
  refine hz_getI (pc := 9) C (v := nI (vl t x s)) ffX8_82 dX8_number_9 hT2 hA2 rfl (S0.2.2.2.trans (okn_v hok)) ?_
  refine hz_iload_n (pc := 12) C dX8_number_12 rfl ?_
  refine hz_iload_n (pc := 13) C dX8_number_13 rfl ?_
  refine hz_callSNs (pc := 14) C (as := [.int (nI (vl t x s)), .int (nI lo), .int zzv2]) (st := []) (ev_within _ (nI (vl t x s)) (nI lo) zzv2) (hz_new0 _ _) fyX10_within fsX8_96 rfl dX8_number_14 rfl rfl (Nat.le_of_ble_eq_true rfl) (by decide) (hz_cap0 _) ?_
  refine hz_ifb_ne (pc := 17) C (tgt := 22) dX8_number_17 rfl (fun _ => ?_) (fun cq => absurd ⟨zzk3, zzk4⟩ cq)
  refine hz_aload_n (pc := 22) C dX8_number_22 rfl ?_
  refine hz_getI (pc := 23) C (v := nI (vl t x s)) ffX8_82 dX8_number_23 hT2 hA2 rfl (S0.2.2.2.trans (okn_v hok)) ?_
  refine hz_istore_n (pc := 26) C (ls' := [some (.ref 2), some (.int (nI lo)), some (.int zzv2), some (.int (nI (vl t x s)))]) dX8_number_26 (Nat.le_of_ble_eq_true rfl) rfl ?_
  refine hz_aload_n (pc := 27) C dX8_number_27 rfl ?_
  refine hz_callVxv (pc := 28) C (as := []) (st := []) (ex_step X0 hn.2.2.1 S0.2.2.1) fyX8_step fvX8_22 rfl dX8_number_28 hT2 rfl rfl hA2 rfl rfl (Nat.le_of_ble_eq_true rfl) (by decide) (hz_cap0 _) (fun K1 h1 => ?_)
  refine hz_iload_n (pc := 31) C dX8_number_31 rfl ?_
  exact hz_iretx C Z rfl dX8_number_32 ⟨K1, rfl, rfl, h1⟩
set_option maxHeartbeats 4000000 in
set_option maxRecDepth 100000 in
theorem ev_numN {J : Nat → Nat → Int32} {L : Nat → Nat → Int64} {q : Nat → Nat → Nat} {t : Nat} {x : Nat → Nat} (X0 : tx J t x) {s : Nat} (hs : s ≤ t) (S0 : tS J t x s) {lo : Nat} (hlo : lo < 100) {zzv2 : Int32} (hno : ¬ okn t x s lo zzv2 = true) : hz_Ev mX8_number TT NN (J, L, PP q) [.ref 2, .int (nI lo), .int zzv2] 0 0 (some (.int (-1 : Int32))) TT NN (J, L, PP q) := by
  have h150 := X0.1
  have hn := nxe_ok x hs
  have hkl := kc_le t x s
  refine hz_Ev.intro (ls := [some (.ref 2), some (.int (nI lo)), some (.int zzv2), none]) (by decide +kernel) rfl (Nat.le_of_ble_eq_true rfl) (fun X C Z _ => ?_)
  refine hz_aload_n (pc := 0) C dX8_number_0 rfl ?_
  refine hz_getI (pc := 1) C (v := nI (kc t x s)) ffX8_25 dX8_number_1 hT2 hA2 rfl S0.1 ?_
  refine hz_iconst (pc := 4) C (v := nI 2) dX8_number_4 (by decide +kernel) ?_
  refine hz_ic_ne (pc := 5) C (tgt := 20) dX8_number_5 rfl (fun zzc1 => ?_) (fun zzc1 => ?_)
  · refine hz_iconst (pc := 20) C (v := (-1 : Int32)) dX8_number_20 (by decide +kernel) ?_
    exact hz_iret C Z rfl dX8_number_21 rfl rfl
  · refine hz_aload_n (pc := 8) C dX8_number_8 rfl ?_
    refine hz_getI (pc := 9) C (v := vC t x s) ffX8_82 dX8_number_9 hT2 hA2 rfl S0.2.2.2 ?_
    refine hz_iload_n (pc := 12) C dX8_number_12 rfl ?_
    refine hz_iload_n (pc := 13) C dX8_number_13 rfl ?_
    refine hz_callSNs (pc := 14) C (as := [.int (vC t x s), .int (nI lo), .int zzv2]) (st := []) (ev_within _ (vC t x s) (nI lo) zzv2) (hz_new0 _ _) fyX10_within fsX8_96 rfl dX8_number_14 rfl rfl (Nat.le_of_ble_eq_true rfl) (by decide) (hz_cap0 _) ?_
    refine hz_ifb_ne (pc := 17) C (tgt := 22) dX8_number_17 rfl (fun zzc2 => ?_) (fun zzc2 => ?_)
    · exact absurd zzc2 (okn_n hlo hno ((nI_eq (by omega) (by omega)).mp zzc1))
    · refine hz_iconst (pc := 20) C (v := (-1 : Int32)) dX8_number_20 (by decide +kernel) ?_
      exact hz_iret C Z rfl dX8_number_21 rfl rfl
set_option maxHeartbeats 4000000 in
set_option maxRecDepth 100000 in
theorem ex_stopY {J : Nat → Nat → Int32} {L : Nat → Nat → Int64} {q : Nat → Nat → Nat} {t : Nat} {x : Nat → Nat} (X0 : tx J t x) {s : Nat} (hs : s ≤ t) (S0 : tS J t x s) (hk : kc t x s = 3) : hz_Ex mX8_stop TT NN (J, L, PP q) [.ref 2] (hz_PI L (PP q) (some (.int (nI 1))) (fun K => tC J K ∧ tS K t x (nxe t x s))) := by
  have h150 := X0.1
  have hn := nxe_ok x hs
  have hkl := kc_le t x s
  refine hz_Ex.intro (ls := [some (.ref 2)]) (by decide +kernel) rfl (Nat.le_of_ble_eq_true rfl) (fun X C Z => ?_)
  refine hz_aload_n (pc := 0) C dX8_stop_0 rfl ?_
  refine hz_getI (pc := 1) C (v := nI (kc t x s)) ffX8_25 dX8_stop_1 hT2 hA2 rfl S0.1 ?_
  refine hz_iconst (pc := 4) C (v := nI 3) dX8_stop_4 (by decide +kernel) ?_
  refine hz_ic_eq (pc := 5) C (tgt := 10) dX8_stop_5 rfl (fun _ => ?_) (fun cq => absurd (congrArg nI hk) cq)
  refine hz_aload_n (pc := 10) C dX8_stop_10 rfl ?_
  refine hz_callVxv (pc := 11) C (as := []) (st := []) (ex_step X0 hn.2.2.1 S0.2.2.1) fyX8_step fvX8_22 rfl dX8_stop_11 hT2 rfl rfl hA2 rfl rfl (Nat.le_of_ble_eq_true rfl) (by decide) (hz_cap0 _) (fun K1 h1 => ?_)
  refine hz_iconst (pc := 14) C (v := nI 1) dX8_stop_14 (by decide +kernel) ?_
  exact hz_zretx C Z rfl (by decide +kernel) dX8_stop_15 ⟨K1, rfl, rfl, h1⟩
set_option maxHeartbeats 4000000 in
set_option maxRecDepth 100000 in
theorem ev_stopN {J : Nat → Nat → Int32} {L : Nat → Nat → Int64} {q : Nat → Nat → Nat} {t : Nat} {x : Nat → Nat} (X0 : tx J t x) {s : Nat} (hs : s ≤ t) (S0 : tS J t x s) (hk : ¬ kc t x s = 3) : hz_Ev mX8_stop TT NN (J, L, PP q) [.ref 2] 0 0 (some (.int (nI 0))) TT NN (J, L, PP q) := by
  have h150 := X0.1
  have hn := nxe_ok x hs
  have hkl := kc_le t x s
  refine hz_Ev.intro (ls := [some (.ref 2)]) (by decide +kernel) rfl (Nat.le_of_ble_eq_true rfl) (fun X C Z _ => ?_)
  refine hz_aload_n (pc := 0) C dX8_stop_0 rfl ?_
  refine hz_getI (pc := 1) C (v := nI (kc t x s)) ffX8_25 dX8_stop_1 hT2 hA2 rfl S0.1 ?_
  refine hz_iconst (pc := 4) C (v := nI 3) dX8_stop_4 (by decide +kernel) ?_
  refine hz_ic_eq (pc := 5) C (tgt := 10) dX8_stop_5 rfl (fun cq => absurd ((nI_eq (by omega) (by omega)).mp cq) hk) (fun _ => ?_)
  refine hz_iconst (pc := 8) C (v := nI 0) dX8_stop_8 (by decide +kernel) ?_
  exact hz_zret C Z rfl (by decide +kernel) dX8_stop_9 rfl rfl
theorem rho_rho (a : Nat) : rho (rho a) = a := by
  unfold rho
  split
  · rw [if_neg (by omega), if_pos (by omega)]; omega
  · split
    · rw [if_pos (by omega)]; omega
    · rfl
theorem rho_o {a : Nat} (h : a < 12 ∨ 77 < a) : rho a = a := by
  unfold rho
  rw [if_neg (by omega), if_neg (by omega)]
theorem rho_h {a : Nat} (h : 12 ≤ a ∧ a ≤ 44) : rho a = a + 33 := if_pos h
theorem rho_d {a : Nat} (h : 45 ≤ a ∧ a ≤ 77) : rho a = a - 33 := by
  unfold rho
  rw [if_neg (by omega), if_pos h]
def rJ {α : Type} (J : Nat → Nat → α) : Nat → Nat → α := fun a => J (rho a)
theorem rJ_rJ {α : Type} (J : Nat → Nat → α) : rJ (rJ J) = J := by
  funext a
  show J (rho (rho a)) = J a
  rw [rho_rho]
theorem rJ_up {α : Type} (J : Nat → Nat → α) (a k : Nat) (v : α) : rJ (hz_up J (rho a) k v) = hz_up (rJ J) a k v := by
  funext b
  unfold rJ
  by_cases h : b = a
  · subst h; rw [hz_up_eq, hz_up_eq]
  · rw [hz_up_ne _ _ _ _ h, hz_up_ne _ _ _ _ (fun z => h (by rw [← rho_rho b, z, rho_rho]))]
theorem rJ_sa (J : Nat → Nat → Int32) (a : Nat) (f : Nat → Int32) : rJ (hz_sa J (rho a) f) = hz_sa (rJ J) a f := by
  funext b
  unfold rJ
  by_cases h : b = a
  · subst h; rw [sa_eq, sa_eq]
  · rw [sa_ne _ _ _ h, sa_ne _ _ _ (fun z => h (by rw [← rho_rho b, z, rho_rho]))]
/-- the order of the moments, seen from the other home -/
def rq (q : Nat → Nat → Nat) : Nat → Nat → Nat := fun a k => rho (q (rho a) k)
/-- the draft is u -/
def DV (q : Nat → Nat → Nat) (J : Nat → Nat → Int32) (u : Nat → Nat) : Prop := HV 12 (rq q) (rJ J) u
theorem DV.cong {q : Nat → Nat → Nat} {J K : Nat → Nat → Int32} {u : Nat → Nat} (h : DV q J u) (U : WU u) (e : ∀ a, 45 ≤ a → a ≤ 77 → K a = J a) : DV q K u := HV.cong h U (fun a h1 h2 => by unfold rJ; rw [rho_h (by omega)]; exact e _ (by omega) (by omega)) (fun _ => rfl)
theorem hp_rq {q : Nat → Nat → Nat} (H : HP 45 q) : HP 12 (rq q) := by
  have e : ∀ i, rq q (12 + 9) i = rho (q (45 + 9) i) := fun i => rfl
  refine ⟨fun i hi => ?_, fun i j hi hj hij => ?_⟩
  · obtain ⟨j, hj, ej⟩ := H.1 i hi
    refine ⟨j, hj, ?_⟩
    rw [e i, ej, rho_d (by omega)]; omega
  · rw [e i, e j] at hij
    refine H.2 i j hi hj ?_
    have h9 := congrArg rho hij
    rw [rho_rho, rho_rho] at h9
    exact h9

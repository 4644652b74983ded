theorem mv_t1 {u : Nat → Nat} {i : Nat} (h : i < 6) : mv u (78 + 2 * i + 1) = nI (u (79 + 2 * i)) - 1 := by
  rw [show 78 + 2 * i + 1 = 79 + 2 * i by omega]; exact mv_t h
theorem bt_and {d k : Nat} (hd : d < 64) (hk : k < 6) : (nI d >>> (nI k &&& 31)) &&& nI 1 = nI (if bt d k = true then 1 else 0) := by
  have h : ∀ k, k < 6 → ∀ d, d < 64 → (nI d >>> (nI k &&& 31)) &&& nI 1 = nI (if bt d k = true then 1 else 0) := by decide +kernel
  exact h k hk d hd
theorem so_any {k : Nat} (hk : k < 6) (s c b : Int32) (h : so_of k s c b = true) : so_ev k c b = true := by
  have e0 : hz_rem (nI 0) (nI 41) = nI 0 := by decide +kernel
  have e1 : hz_rem (nI 20) (nI 41) = nI 20 := by decide +kernel
  have e2 : hz_rem (nI 7) (nI 30) = nI 7 := by decide +kernel
  rcases (show k = 0 ∨ k = 1 ∨ k = 2 ∨ k = 3 ∨ k = 4 ∨ k = 5 by omega) with rfl | rfl | rfl | rfl | rfl | rfl
  · simp only [so_of, so_ev, so_pl, e0, if_neg, if_pos, Nat.reduceEqDiff, if_false, Bool.and_eq_true, Bool.or_eq_true, decide_eq_true_eq, true_and] at *
    exact Or.inl h.2
  · simp only [so_of, so_ev, so_old, so_pl, e0, if_true, Bool.and_eq_true, Bool.or_eq_true, decide_eq_true_eq, true_and] at *
    exact Or.inl h.2
  · simp only [so_of, so_ev, so_wi, so_pl, e0, e1, if_true, if_false, Nat.reduceEqDiff, Bool.and_eq_true, Bool.or_eq_true, decide_eq_true_eq, true_and] at *
    rcases h with h | h
    · exact Or.inl (Or.inl h.2)
    · exact Or.inr (Or.inr (Or.inr h.2))
  · simp only [so_of, so_ev, so_pl, e0, if_false, Nat.reduceEqDiff, Bool.and_eq_true, Bool.or_eq_true, decide_eq_true_eq, true_and] at *
    exact Or.inl h.2
  · simp only [so_of, so_ev, so_ph, e2, if_true, if_false, Nat.reduceEqDiff, Bool.or_eq_true, decide_eq_true_eq] at *
    exact Or.inr (Or.inl trivial)
  · simp only [so_of, so_ev, so_fr, so_old, so_pl, e0, if_true, if_false, Nat.reduceEqDiff, Bool.and_eq_true, Bool.or_eq_true, decide_eq_true_eq, true_and] at *
    exact Or.inl ⟨h.1, h.2.2⟩
theorem anyb_ex {f : Nat → Bool} : ∀ {n : Nat}, anyb f n = true → ∃ k, k < n ∧ f k = true := by
  intro n
  induction n with
  | zero => intro h; simp [anyb] at h
  | succ n ih =>
    intro h
    simp only [anyb, Bool.or_eq_true] at h
    rcases h with h | h
    · obtain ⟨k, h1, h2⟩ := ih h
      exact ⟨k, by omega, h2⟩
    · exact ⟨n, by omega, h⟩
theorem so_1230 {k : Nat} (hk : k < 6) (c b : Int32) {N : Nat} (hN : 20 < N) : (anyb (fun s => so_of k (nI s) c b) N = true) ↔ so_ev k c b = true := by
  constructor
  · intro h
    obtain ⟨s, _, h2⟩ := anyb_ex h
    exact so_any hk _ c b h2
  · intro h
    simp only [so_ev, Bool.or_eq_true] at h
    rcases h with h | h | h
    · exact anyb_of (k := 0) (by omega) h
    · exact anyb_of (k := 7) (by omega) h
    · exact anyb_of (k := 20) (by omega) h
set_option maxHeartbeats 4000000 in
set_option maxRecDepth 100000 in
theorem lp_bits {X : hz_X} (C : hz_C X mX11_bits) {M : hz_M} {d : Nat} (hd : d < 64) (kk : hz_G X TT NN M 0 0 24 [some (.int (nI d)), some (.int (nI (csum (bt d) 6))), some (.int (nI 6))] []) : ∀ (n i : Nat) , i + n = 6 → hz_G X TT NN M 0 0 4 [some (.int (nI d)), some (.int (nI (csum (bt d) i))), some (.int (nI i))] [] := by
  intro n
  induction n with
  | zero =>
    intro i  hi 
    obtain rfl : i = 6 := by omega
    refine hz_iload_n (pc := 4) C dX11_bits_4 rfl ?_
    refine hz_bipush (pc := 5) C (v := nI 6) dX11_bits_5 (by decide +kernel) ?_
    refine hz_ic_ge (pc := 7) C (tgt := 24) dX11_bits_7 rfl (fun _ => ?_) (fun cq => absurd (nI_le (by omega) (by omega)) cq)
    exact kk
  | succ n ih =>
    intro i  hi 
    refine hz_iload_n (pc := 4) C dX11_bits_4 rfl ?_
    refine hz_bipush (pc := 5) C (v := nI 6) dX11_bits_5 (by decide +kernel) ?_
    refine hz_ic_ge (pc := 7) C (tgt := 24) dX11_bits_7 rfl (fun cq => absurd cq (nI_ge (by omega) (by omega))) (fun _ => ?_)
    refine hz_iload_n (pc := 10) C dX11_bits_10 rfl ?_
    refine hz_iload_n (pc := 11) C dX11_bits_11 rfl ?_
    refine hz_iload_n (pc := 12) C dX11_bits_12 rfl ?_
    refine hz_ishr (pc := 13) C dX11_bits_13 rfl ?_
    refine hz_iconst (pc := 14) C (v := nI 1) dX11_bits_14 (by decide +kernel) ?_
    refine hz_iand (pc := 15) C dX11_bits_15 rfl ?_
    refine hz_iadd (pc := 16) C dX11_bits_16 rfl ?_
    refine hz_istore_n (pc := 17) C (ls' := [some (.int (nI d)), some (.int ((nI (csum (bt d) i)) + (((nI d) >>> ((nI i) &&& 31)) &&& (nI 1)))), some (.int (nI i))]) dX11_bits_17 (Nat.le_of_ble_eq_true rfl) rfl ?_
    refine hz_iinc (pc := 18) C (v := nI (i + 1)) (ls' := [some (.int (nI d)), some (.int ((nI (csum (bt d) i)) + (((nI d) >>> ((nI i) &&& 31)) &&& (nI 1)))), some (.int (nI (i + 1)))]) dX11_bits_18 rfl (nI_add _ 1) rfl ?_
    refine hz_goto (pc := 21) C (tgt := 4) dX11_bits_21 rfl ?_
    rw [bt_and hd (by omega), nI_add]
    have h9 := ih (i + 1) (by omega)
    simp only [csum] at h9
    exact h9
set_option maxHeartbeats 4000000 in
set_option maxRecDepth 100000 in
theorem ev_bitsM (M : hz_M) {d : Nat} (hd : d < 64) : hz_Ev mX11_bits TT NN M [.int (nI d)] 0 0 (some (.int (nI (csum (bt d) 6)))) TT NN M := by
  refine hz_Ev.intro (ls := [some (.int (nI d)), none, none]) (by decide +kernel) rfl (Nat.le_of_ble_eq_true rfl) (fun X C Z _ => ?_)
  refine hz_iconst (pc := 0) C (v := nI 0) dX11_bits_0 (by decide +kernel) ?_
  refine hz_istore_n (pc := 1) C (ls' := [some (.int (nI d)), some (.int (nI 0)), none]) dX11_bits_1 (Nat.le_of_ble_eq_true rfl) rfl ?_
  refine hz_iconst (pc := 2) C (v := nI 0) dX11_bits_2 (by decide +kernel) ?_
  refine hz_istore_n (pc := 3) C (ls' := [some (.int (nI d)), some (.int (nI 0)), some (.int (nI 0))]) dX11_bits_3 (Nat.le_of_ble_eq_true rfl) rfl ?_
  refine lp_bits C hd ?_ 6 0 (by omega)
  refine hz_iload_n (pc := 24) C dX11_bits_24 rfl ?_
  exact hz_iret C Z rfl dX11_bits_25 rfl rfl
set_option maxHeartbeats 4000000 in
set_option maxRecDepth 100000 in
theorem lp_be {X : hz_X} (C : hz_C X mX11_beepsEver) {I : Nat → Nat → Int32} {L : Nat → Nat → Int64} {q : Nat → Nat → Nat} {u : Nat → Nat} (V : MV I u) (U : WU u) {k : Nat} (hk : k < u 64) {c : Nat} (hc : c ≤ 9) (kk : hz_G X TT NN (I, L, PP q) 0 0 56 [some (.ref 146), some (.int (nI k)), some (.int (nI c)), some (.int (hz_b (anyb (fun s => so_of (u (65 + k)) (nI s) (nI c) (nI (u (94 + k)))) 1230 = true))), some (.int (nI 1230))] []) : ∀ (n i : Nat) , i + n = 1230 → hz_G X TT NN (I, L, PP q) 0 0 5 [some (.ref 146), some (.int (nI k)), some (.int (nI c)), some (.int (hz_b (anyb (fun s => so_of (u (65 + k)) (nI s) (nI c) (nI (u (94 + k)))) i = true))), some (.int (nI i))] [] := by
  intro n
  induction n with
  | zero =>
    intro i  hi 
    obtain rfl : i = 1230 := by omega
    have hal := wu_al U
    have hkd := wu_kd U hk
    have hba := wu_ba U hk
    refine hz_iload (pc := 5) C dX11_beepsEver_5 rfl ?_
    refine hz_sipush (pc := 7) C (v := nI 1230) dX11_beepsEver_7 (by decide +kernel) ?_
    refine hz_ic_ge (pc := 10) C (tgt := 56) dX11_beepsEver_10 rfl (fun _ => ?_) (fun cq => absurd (nI_le (by omega) (by omega)) cq)
    exact kk
  | succ n ih =>
    intro i  hi 
    have hal := wu_al U
    have hkd := wu_kd U hk
    have hba := wu_ba U hk
    refine hz_iload (pc := 5) C dX11_beepsEver_5 rfl ?_
    refine hz_sipush (pc := 7) C (v := nI 1230) dX11_beepsEver_7 (by decide +kernel) ?_
    refine hz_ic_ge (pc := 10) C (tgt := 56) dX11_beepsEver_10 rfl (fun cq => absurd cq (nI_ge (by omega) (by omega))) (fun _ => ?_)
    refine hz_iload_n (pc := 13) C dX11_beepsEver_13 rfl ?_
    refine hz_ifb_ne (pc := 14) C (tgt := 44) dX11_beepsEver_14 rfl (fun c1 => ?_) (fun c1 => ?_)
    · refine hz_iconst (pc := 44) C (v := nI 1) dX11_beepsEver_44 (by decide +kernel) ?_
      refine hz_goto (pc := 45) C (tgt := 49) dX11_beepsEver_45 rfl ?_
      refine hz_istore_n (pc := 49) C (ls' := [some (.ref 146), some (.int (nI k)), some (.int (nI c)), some (.int (nI 1)), some (.int (nI i))]) dX11_beepsEver_49 (Nat.le_of_ble_eq_true rfl) rfl ?_
      refine hz_iinc (pc := 50) C (v := nI (i + 1)) (ls' := [some (.ref 146), some (.int (nI k)), some (.int (nI c)), some (.int (nI 1)), some (.int (nI (i + 1)))]) dX11_beepsEver_50 rfl (nI_add _ 1) rfl ?_
      refine hz_goto (pc := 53) C (tgt := 5) dX11_beepsEver_53 rfl ?_
      have h9 := ih (i + 1) (by omega)
      rw [hz_b1 (p := anyb (fun s => so_of (u (65 + k)) (nI s) (nI c) (nI (u (94 + k)))) (i + 1) = true) (by simp [anyb, c1])] at h9
      exact h9
    · refine hz_aload_n (pc := 17) C dX11_beepsEver_17 rfl ?_
      refine hz_getP (pc := 18) C (v := 147) ffX11_7 dX11_beepsEver_18 hT146 hA146 rfl (hP146_0 q) (by decide) ?_
      refine hz_bipush (pc := 21) C (v := nI 65) dX11_beepsEver_21 (by decide +kernel) ?_
      refine hz_iload_n (pc := 23) C dX11_beepsEver_23 rfl ?_
      refine hz_iadd (pc := 24) C (v := nI (65 + k)) dX11_beepsEver_24 (nI_add _ _) ?_
      refine hz_iald (pc := 25) C (v := nI (u (65 + k))) (j := 65 + k) dX11_beepsEver_25 hT147 hA147 rfl (by omega) (by decide) (mg V (by omega) (by omega)) ?_
      refine hz_aload_n (pc := 26) C dX11_beepsEver_26 rfl ?_
      refine hz_getP (pc := 27) C (v := 147) ffX11_7 dX11_beepsEver_27 hT146 hA146 rfl (hP146_0 q) (by decide) ?_
      refine hz_bipush (pc := 30) C (v := nI 94) dX11_beepsEver_30 (by decide +kernel) ?_
      refine hz_iload_n (pc := 32) C dX11_beepsEver_32 rfl ?_
      refine hz_iadd (pc := 33) C (v := nI (94 + k)) dX11_beepsEver_33 (nI_add _ _) ?_
      refine hz_iald (pc := 34) C (v := nI (u (94 + k))) (j := 94 + k) dX11_beepsEver_34 hT147 hA147 rfl (by omega) (by decide) (mg V (by omega) (by omega)) ?_
      refine hz_iload (pc := 35) C dX11_beepsEver_35 rfl ?_
      refine hz_iload_n (pc := 37) C dX11_beepsEver_37 rfl ?_
      refine hz_callSs (pc := 38) C (as := [.int (nI (u (65 + k))), .int (nI (u (94 + k))), .int (nI i), .int (nI c)]) (st := []) (ev_beepsBy _ (k := u (65 + k)) (by omega) (b := u (94 + k)) (c := c) (by omega) (by omega) (nI i)) (hz_new0 _ _) fyX11_beepsBy fsX11_172 rfl dX11_beepsEver_38 rfl rfl (Nat.le_of_ble_eq_true rfl) (by decide) (hz_cap0 _) ?_
      refine hz_ifb_eq (pc := 41) C (tgt := 48) dX11_beepsEver_41 rfl (fun c2 => ?_) (fun c2 => ?_)
      · refine hz_iconst (pc := 48) C (v := nI 0) dX11_beepsEver_48 (by decide +kernel) ?_
        refine hz_istore_n (pc := 49) C (ls' := [some (.ref 146), some (.int (nI k)), some (.int (nI c)), some (.int (nI 0)), some (.int (nI i))]) dX11_beepsEver_49 (Nat.le_of_ble_eq_true rfl) rfl ?_
        refine hz_iinc (pc := 50) C (v := nI (i + 1)) (ls' := [some (.ref 146), some (.int (nI k)), some (.int (nI c)), some (.int (nI 0)), some (.int (nI (i + 1)))]) dX11_beepsEver_50 rfl (nI_add _ 1) rfl ?_
        refine hz_goto (pc := 53) C (tgt := 5) dX11_beepsEver_53 rfl ?_
        have h9 := ih (i + 1) (by omega)
        rw [hz_b0 (p := anyb (fun s => so_of (u (65 + k)) (nI s) (nI c) (nI (u (94 + k)))) (i + 1) = true) (by simp [anyb, c1, c2])] at h9
        exact h9
      · refine hz_iconst (pc := 44) C (v := nI 1) dX11_beepsEver_44 (by decide +kernel) ?_
        refine hz_goto (pc := 45) C (tgt := 49) dX11_beepsEver_45 rfl ?_
        refine hz_istore_n (pc := 49) C (ls' := [some (.ref 146), some (.int (nI k)), some (.int (nI c)), some (.int (nI 1)), some (.int (nI i))]) dX11_beepsEver_49 (Nat.le_of_ble_eq_true rfl) rfl ?_
        refine hz_iinc (pc := 50) C (v := nI (i + 1)) (ls' := [some (.ref 146), some (.int (nI k)), some (.int (nI c)), some (.int (nI 1)), some (.int (nI (i + 1)))]) dX11_beepsEver_50 rfl (nI_add _ 1) rfl ?_
        refine hz_goto (pc := 53) C (tgt := 5) dX11_beepsEver_53 rfl ?_
        have h9 := ih (i + 1) (by omega)
        rw [hz_b1 (p := anyb (fun s => so_of (u (65 + k)) (nI s) (nI c) (nI (u (94 + k)))) (i + 1) = true) (by simp [anyb, c2])] at h9
        exact h9
set_option maxHeartbeats 4000000 in
set_option maxRecDepth 100000 in
theorem ev_beepsEver {I : Nat → Nat → Int32} {L : Nat → Nat → Int64} {q : Nat → Nat → Nat} {u : Nat → Nat} (V : MV I u) (U : WU u) {k : Nat} (hk : k < u 64) {c : Nat} (hc : c ≤ 9) : hz_Ev mX11_beepsEver TT NN (I, L, PP q) [.ref 146, .int (nI k), .int (nI c)] 0 0 (some (.int (hz_b (so_ev (u (65 + k)) (nI c) (nI (u (94 + k))) = true)))) TT NN (I, L, PP q) := by
  refine hz_Ev.intro (ls := [some (.ref 146), some (.int (nI k)), some (.int (nI c)), none, none]) (by decide +kernel) rfl (Nat.le_of_ble_eq_true rfl) (fun X C Z _ => ?_)
  refine hz_iconst (pc := 0) C (v := nI 0) dX11_beepsEver_0 (by decide +kernel) ?_
  refine hz_istore_n (pc := 1) C (ls' := [some (.ref 146), some (.int (nI k)), some (.int (nI c)), some (.int (nI 0)), none]) dX11_beepsEver_1 (Nat.le_of_ble_eq_true rfl) rfl ?_
  refine hz_iconst (pc := 2) C (v := nI 0) dX11_beepsEver_2 (by decide +kernel) ?_
  refine hz_istore (pc := 3) C (ls' := [some (.ref 146), some (.int (nI k)), some (.int (nI c)), some (.int (nI 0)), some (.int (nI 0))]) dX11_beepsEver_3 (Nat.le_of_ble_eq_true rfl) rfl ?_
  refine lp_be C V U hk hc ?_ 1230 0 (by omega)
  refine hz_iload_n (pc := 56) C dX11_beepsEver_56 rfl ?_
  exact hz_zret C Z rfl (hz_bn _) dX11_beepsEver_57 (hz_bc (so_1230 (wu_kd U hk) _ _ (by decide))) rfl
set_option maxHeartbeats 4000000 in
set_option maxRecDepth 100000 in
theorem lp_ab {X : hz_X} (C : hz_C X mX11_alikeBy) {I : Nat → Nat → Int32} {L : Nat → Nat → Int64} {q : Nat → Nat → Nat} {u : Nat → Nat} (V : MF I u) (U : WU u) {r d k : Nat} (hr : r < 8) (hd : d < 64) (hk : k < u 64) (kk : hz_G X TT NN (I, L, PP q) 0 0 62 [some (.ref 146), some (.int (nI r)), some (.int (nI d)), some (.int (nI k)), some (.int (nI (bsum (fun o => bt d o && decide (en u r o = en u r k)) (u 64)))), some (.int (nI (u 64)))] []) : ∀ (n i : Nat) , i + n = u 64 → hz_G X TT NN (I, L, PP q) 0 0 6 [some (.ref 146), some (.int (nI r)), some (.int (nI d)), some (.int (nI k)), some (.int (nI (bsum (fun o => bt d o && decide (en u r o = en u r k)) i))), some (.int (nI i))] [] := by
  intro n
  induction n with
  | zero =>
    intro i  hi 
    obtain rfl : i = u 64 := by omega
    have hal := wu_al U
    refine hz_iload (pc := 6) C dX11_alikeBy_6 rfl ?_
    refine hz_aload_n (pc := 8) C dX11_alikeBy_8 rfl ?_
    refine hz_getP (pc := 9) C (v := 147) ffX11_7 dX11_alikeBy_9 hT146 hA146 rfl (hP146_0 q) (by decide) ?_
    refine hz_bipush (pc := 12) C (v := nI 64) dX11_alikeBy_12 (by decide +kernel) ?_
    refine hz_iald (pc := 14) C (v := nI (u 64)) (j := 64) dX11_alikeBy_14 hT147 hA147 rfl (by decide) (by decide) (mg V.1 (by omega) (by omega)) ?_
    refine hz_ic_ge (pc := 15) C (tgt := 62) dX11_alikeBy_15 rfl (fun _ => ?_) (fun cq => absurd (nI_le (by omega) (by omega)) cq)
    exact kk
  | succ n ih =>
    intro i  hi 
    have hal := wu_al U
    refine hz_iload (pc := 6) C dX11_alikeBy_6 rfl ?_
    refine hz_aload_n (pc := 8) C dX11_alikeBy_8 rfl ?_
    refine hz_getP (pc := 9) C (v := 147) ffX11_7 dX11_alikeBy_9 hT146 hA146 rfl (hP146_0 q) (by decide) ?_
    refine hz_bipush (pc := 12) C (v := nI 64) dX11_alikeBy_12 (by decide +kernel) ?_
    refine hz_iald (pc := 14) C (v := nI (u 64)) (j := 64) dX11_alikeBy_14 hT147 hA147 rfl (by decide) (by decide) (mg V.1 (by omega) (by omega)) ?_
    refine hz_ic_ge (pc := 15) C (tgt := 62) dX11_alikeBy_15 rfl (fun cq => absurd cq (nI_ge (by omega) (by omega))) (fun _ => ?_)
    refine hz_iload (pc := 18) C dX11_alikeBy_18 rfl ?_
    refine hz_iload_n (pc := 20) C dX11_alikeBy_20 rfl ?_
    refine hz_iload (pc := 21) C dX11_alikeBy_21 rfl ?_
    refine hz_callSs (pc := 23) C (as := [.int (nI d), .int (nI i)]) (st := [.int (nI (bsum (fun o => bt d o && decide (en u r o = en u r k)) i))]) (ev_hasM _ hd (by omega)) (hz_new0 _ _) fyX11_has fsX11_166 rfl dX11_alikeBy_23 rfl rfl (Nat.le_of_ble_eq_true rfl) (by decide) (hz_cap0 _) ?_
    refine hz_ifb_eq (pc := 26) C (tgt := 52) dX11_alikeBy_26 rfl (fun c1 => ?_) (fun c1 => ?_)
    · refine hz_iconst (pc := 52) C (v := nI 0) dX11_alikeBy_52 (by decide +kernel) ?_
      refine hz_ior (pc := 53) C dX11_alikeBy_53 rfl ?_
      refine hz_istore (pc := 54) C (ls' := [some (.ref 146), some (.int (nI r)), some (.int (nI d)), some (.int (nI k)), some (.int ((nI (bsum (fun o => bt d o && decide (en u r o = en u r k)) i)) ||| (nI 0))), some (.int (nI i))]) dX11_alikeBy_54 (Nat.le_of_ble_eq_true rfl) rfl ?_
      refine hz_iinc (pc := 56) C (v := nI (i + 1)) (ls' := [some (.ref 146), some (.int (nI r)), some (.int (nI d)), some (.int (nI k)), some (.int ((nI (bsum (fun o => bt d o && decide (en u r o = en u r k)) i)) ||| (nI 0))), some (.int (nI (i + 1)))]) dX11_alikeBy_56 rfl (nI_add _ 1) rfl ?_
      refine hz_goto (pc := 59) C (tgt := 6) dX11_alikeBy_59 rfl ?_
      rw [bor_0 (by omega)]
      have h9 := ih (i + 1) (by omega)
      rw [bsum_f (f := (fun o => bt d o && decide (en u r o = en u r k))) (n := i) (by simp [c1])] at h9
      exact h9
    · refine hz_aload_n (pc := 29) C dX11_alikeBy_29 rfl ?_
      refine hz_iload_n (pc := 30) C dX11_alikeBy_30 rfl ?_
      refine hz_iload (pc := 31) C dX11_alikeBy_31 rfl ?_
      refine hz_callVs (pc := 33) C (as := [.int (nI r), .int (nI i)]) (st := [.int (nI (bsum (fun o => bt d o && decide (en u r o = en u r k)) i))]) (ev_throughBy V U (r := r) (k := i) (by omega) (by omega)) (hz_new0 _ _) fyX11_throughBy fvX11_182 rfl dX11_alikeBy_33 hT146 rfl rfl hA146 rfl rfl (Nat.le_of_ble_eq_true rfl) (by decide) (hz_cap0 _) ?_
      refine hz_aload_n (pc := 36) C dX11_alikeBy_36 rfl ?_
      refine hz_iload_n (pc := 37) C dX11_alikeBy_37 rfl ?_
      refine hz_iload_n (pc := 38) C dX11_alikeBy_38 rfl ?_
      refine hz_callVs (pc := 39) C (as := [.int (nI r), .int (nI k)]) (st := [.int (nI (en u r i) - 1), .int (nI (bsum (fun o => bt d o && decide (en u r o = en u r k)) i))]) (ev_throughBy V U (r := r) (k := k) (by omega) (by omega)) (hz_new0 _ _) fyX11_throughBy fvX11_182 rfl dX11_alikeBy_39 hT146 rfl rfl hA146 rfl rfl (Nat.le_of_ble_eq_true rfl) (by decide) (hz_cap0 _) ?_
      refine hz_ic_ne (pc := 42) C (tgt := 52) dX11_alikeBy_42 rfl (fun c2 => ?_) (fun c2 => ?_)
      · refine hz_iconst (pc := 52) C (v := nI 0) dX11_alikeBy_52 (by decide +kernel) ?_
        refine hz_ior (pc := 53) C dX11_alikeBy_53 rfl ?_
        refine hz_istore (pc := 54) C (ls' := [some (.ref 146), some (.int (nI r)), some (.int (nI d)), some (.int (nI k)), some (.int ((nI (bsum (fun o => bt d o && decide (en u r o = en u r k)) i)) ||| (nI 0))), some (.int (nI i))]) dX11_alikeBy_54 (Nat.le_of_ble_eq_true rfl) rfl ?_
        refine hz_iinc (pc := 56) C (v := nI (i + 1)) (ls' := [some (.ref 146), some (.int (nI r)), some (.int (nI d)), some (.int (nI k)), some (.int ((nI (bsum (fun o => bt d o && decide (en u r o = en u r k)) i)) ||| (nI 0))), some (.int (nI (i + 1)))]) dX11_alikeBy_56 rfl (nI_add _ 1) rfl ?_
        refine hz_goto (pc := 59) C (tgt := 6) dX11_alikeBy_59 rfl ?_
        rw [bor_0 (by omega)]
        have h9 := ih (i + 1) (by omega)
        rw [bsum_f (f := (fun o => bt d o && decide (en u r o = en u r k))) (n := i) (by simp only [Bool.and_eq_true, decide_eq_true_eq]; exact fun z => c2 ((en_eq (en_le u hr) (en_le u hr)).mpr z.2))] at h9
        exact h9
      · refine hz_iconst (pc := 45) C (v := nI 1) dX11_alikeBy_45 (by decide +kernel) ?_
        refine hz_iload (pc := 46) C dX11_alikeBy_46 rfl ?_
        refine hz_ishl (pc := 48) C dX11_alikeBy_48 rfl ?_
        refine hz_goto (pc := 49) C (tgt := 53) dX11_alikeBy_49 rfl ?_
        refine hz_ior (pc := 53) C dX11_alikeBy_53 rfl ?_
        refine hz_istore (pc := 54) C (ls' := [some (.ref 146), some (.int (nI r)), some (.int (nI d)), some (.int (nI k)), some (.int ((nI (bsum (fun o => bt d o && decide (en u r o = en u r k)) i)) ||| ((nI 1) <<< ((nI i) &&& 31)))), some (.int (nI i))]) dX11_alikeBy_54 (Nat.le_of_ble_eq_true rfl) rfl ?_
        refine hz_iinc (pc := 56) C (v := nI (i + 1)) (ls' := [some (.ref 146), some (.int (nI r)), some (.int (nI d)), some (.int (nI k)), some (.int ((nI (bsum (fun o => bt d o && decide (en u r o = en u r k)) i)) ||| ((nI 1) <<< ((nI i) &&& 31)))), some (.int (nI (i + 1)))]) dX11_alikeBy_56 rfl (nI_add _ 1) rfl ?_
        refine hz_goto (pc := 59) C (tgt := 6) dX11_alikeBy_59 rfl ?_
        rw [bor_add (by omega)]
        have h9 := ih (i + 1) (by omega)
        rw [bsum_t (f := (fun o => bt d o && decide (en u r o = en u r k))) (n := i) (by simp only [Bool.and_eq_true, decide_eq_true_eq]; exact ⟨c1, (en_eq (en_le u hr) (en_le u hr)).mp c2⟩)] at h9
        exact h9
set_option maxHeartbeats 4000000 in
set_option maxRecDepth 100000 in
theorem ev_alikeBy {I : Nat → Nat → Int32} {L : Nat → Nat → Int64} {q : Nat → Nat → Nat} {u : Nat → Nat} (V : MF I u) (U : WU u) {r d k : Nat} (hr : r < 8) (hd : d < 64) (hk : k < u 64) : hz_Ev mX11_alikeBy TT NN (I, L, PP q) [.ref 146, .int (nI r), .int (nI d), .int (nI k)] 0 0 (some (.int (nI (bsum (fun o => bt d o && decide (en u r o = en u r k)) (u 64))))) TT NN (I, L, PP q) := by
  refine hz_Ev.intro (ls := [some (.ref 146), some (.int (nI r)), some (.int (nI d)), some (.int (nI k)), none, none]) (by decide +kernel) rfl (Nat.le_of_ble_eq_true rfl) (fun X C Z _ => ?_)
  refine hz_iconst (pc := 0) C (v := nI 0) dX11_alikeBy_0 (by decide +kernel) ?_
  refine hz_istore (pc := 1) C (ls' := [some (.ref 146), some (.int (nI r)), some (.int (nI d)), some (.int (nI k)), some (.int (nI 0)), none]) dX11_alikeBy_1 (Nat.le_of_ble_eq_true rfl) rfl ?_
  refine hz_iconst (pc := 3) C (v := nI 0) dX11_alikeBy_3 (by decide +kernel) ?_
  refine hz_istore (pc := 4) C (ls' := [some (.ref 146), some (.int (nI r)), some (.int (nI d)), some (.int (nI k)), some (.int (nI 0)), some (.int (nI 0))]) dX11_alikeBy_4 (Nat.le_of_ble_eq_true rfl) rfl ?_
  refine lp_ab C V U hr hd hk ?_ (u 64) 0 (by omega)
  refine hz_iload (pc := 62) C dX11_alikeBy_62 rfl ?_
  exact hz_iret C Z rfl dX11_alikeBy_64 rfl rfl
set_option maxHeartbeats 4000000 in
set_option maxRecDepth 100000 in
theorem lp_w2 {X : hz_X} (C : hz_C X mX11_whichOnes) {I : Nat → Nat → Int32} {L : Nat → Nat → Int64} {q : Nat → Nat → Nat} {u : Nat → Nat} (V : MF I u) (U : WU u) {k : Nat} (hk : k < u 64) {w1 : Option Value} (kk : hz_G X TT NN (I, L, PP q) 0 0 82 [some (.ref 146), w1, some (.int (nI k)), some (.int (hz_b (allb (fit1 u k) (u 77) = true))), some (.int (nI (u 77)))] []) : ∀ (n i : Nat) , i + n = u 77 → hz_G X TT NN (I, L, PP q) 0 0 20 [some (.ref 146), w1, some (.int (nI k)), some (.int (hz_b (allb (fit1 u k) i = true))), some (.int (nI i))] [] := by
  intro n
  induction n with
  | zero =>
    intro i  hi 
    obtain rfl : i = u 77 := by omega
    have hal := wu_al U
    have hnt := wu_nt U
    refine hz_iload (pc := 20) C dX11_whichOnes_20 rfl ?_
    refine hz_aload_n (pc := 22) C dX11_whichOnes_22 rfl ?_
    refine hz_getP (pc := 23) C (v := 147) ffX11_7 dX11_whichOnes_23 hT146 hA146 rfl (hP146_0 q) (by decide) ?_
    refine hz_bipush (pc := 26) C (v := nI 77) dX11_whichOnes_26 (by decide +kernel) ?_
    refine hz_iald (pc := 28) C (v := nI (u 77)) (j := 77) dX11_whichOnes_28 hT147 hA147 rfl (by decide) (by decide) (mg V.1 (by omega) (by omega)) ?_
    refine hz_ic_ge (pc := 29) C (tgt := 82) dX11_whichOnes_29 rfl (fun _ => ?_) (fun cq => absurd (nI_le (by omega) (by omega)) cq)
    exact kk
  | succ n ih =>
    intro i  hi 
    have hal := wu_al U
    have hnt := wu_nt U
    have hnr := wu_nr U (i := i) (by omega)
    have hnq := wu_nq U (i := i) (by omega)
    refine hz_iload (pc := 20) C dX11_whichOnes_20 rfl ?_
    refine hz_aload_n (pc := 22) C dX11_whichOnes_22 rfl ?_
    refine hz_getP (pc := 23) C (v := 147) ffX11_7 dX11_whichOnes_23 hT146 hA146 rfl (hP146_0 q) (by decide) ?_
    refine hz_bipush (pc := 26) C (v := nI 77) dX11_whichOnes_26 (by decide +kernel) ?_
    refine hz_iald (pc := 28) C (v := nI (u 77)) (j := 77) dX11_whichOnes_28 hT147 hA147 rfl (by decide) (by decide) (mg V.1 (by omega) (by omega)) ?_
    refine hz_ic_ge (pc := 29) C (tgt := 82) dX11_whichOnes_29 rfl (fun cq => absurd cq (nI_ge (by omega) (by omega))) (fun _ => ?_)
    refine hz_iload_n (pc := 32) C dX11_whichOnes_32 rfl ?_
    refine hz_ifb_eq (pc := 33) C (tgt := 74) dX11_whichOnes_33 rfl (fun c1 => ?_) (fun c1 => ?_)
    · refine hz_iconst (pc := 74) C (v := nI 0) dX11_whichOnes_74 (by decide +kernel) ?_
      refine hz_istore_n (pc := 75) C (ls' := [some (.ref 146), w1, some (.int (nI k)), some (.int (nI 0)), some (.int (nI i))]) dX11_whichOnes_75 (Nat.le_of_ble_eq_true rfl) rfl ?_
      refine hz_iinc (pc := 76) C (v := nI (i + 1)) (ls' := [some (.ref 146), w1, some (.int (nI k)), some (.int (nI 0)), some (.int (nI (i + 1)))]) dX11_whichOnes_76 rfl (nI_add _ 1) rfl ?_
      refine hz_goto (pc := 79) C (tgt := 20) dX11_whichOnes_79 rfl ?_
      have h9 := ih (i + 1) (by omega)
      rw [hz_b0 (p := allb (fit1 u k) (i + 1) = true) (by simp [allb, c1])] at h9
      exact h9
    · refine hz_aload_n (pc := 36) C dX11_whichOnes_36 rfl ?_
      refine hz_aload_n (pc := 37) C dX11_whichOnes_37 rfl ?_
      refine hz_getP (pc := 38) C (v := 147) ffX11_7 dX11_whichOnes_38 hT146 hA146 rfl (hP146_0 q) (by decide) ?_
      refine hz_bipush (pc := 41) C (v := nI 78) dX11_whichOnes_41 (by decide +kernel) ?_
      refine hz_iconst (pc := 43) C (v := nI 2) dX11_whichOnes_43 (by decide +kernel) ?_
      refine hz_iload (pc := 44) C dX11_whichOnes_44 rfl ?_
      refine hz_imul (pc := 46) C (v := nI (2 * i)) dX11_whichOnes_46 (pk_mul _ _) ?_
      refine hz_iadd (pc := 47) C (v := nI (78 + (2 * i))) dX11_whichOnes_47 (nI_add _ _) ?_
      refine hz_iald (pc := 48) C (v := nI (u (78 + 2 * i))) (j := 78 + (2 * i)) dX11_whichOnes_48 hT147 hA147 rfl (by omega) (by decide) ((V.1 _ (by omega)).trans mv_r) ?_
      refine hz_iload_n (pc := 49) C dX11_whichOnes_49 rfl ?_
      refine hz_callVs (pc := 50) C (as := [.int (nI (u (78 + 2 * i))), .int (nI k)]) (st := []) (ev_throughBy V U (r := u (78 + 2 * i)) (k := k) (by omega) (by omega)) (hz_new0 _ _) fyX11_throughBy fvX11_182 rfl dX11_whichOnes_50 hT146 rfl rfl hA146 rfl rfl (Nat.le_of_ble_eq_true rfl) (by decide) (hz_cap0 _) ?_
      refine hz_aload_n (pc := 53) C dX11_whichOnes_53 rfl ?_
      refine hz_getP (pc := 54) C (v := 147) ffX11_7 dX11_whichOnes_54 hT146 hA146 rfl (hP146_0 q) (by decide) ?_
      refine hz_bipush (pc := 57) C (v := nI 78) dX11_whichOnes_57 (by decide +kernel) ?_
      refine hz_iconst (pc := 59) C (v := nI 2) dX11_whichOnes_59 (by decide +kernel) ?_
      refine hz_iload (pc := 60) C dX11_whichOnes_60 rfl ?_
      refine hz_imul (pc := 62) C (v := nI (2 * i)) dX11_whichOnes_62 (pk_mul _ _) ?_
      refine hz_iadd (pc := 63) C (v := nI (78 + (2 * i))) dX11_whichOnes_63 (nI_add _ _) ?_
      refine hz_iconst (pc := 64) C (v := nI 1) dX11_whichOnes_64 (by decide +kernel) ?_
      refine hz_iadd (pc := 65) C (v := nI ((78 + (2 * i)) + 1)) dX11_whichOnes_65 (nI_add _ _) ?_
      refine hz_iald (pc := 66) C (v := nI (u (79 + 2 * i)) - 1) (j := (78 + (2 * i)) + 1) dX11_whichOnes_66 hT147 hA147 rfl (by omega) (by decide) ((V.1 _ (by omega)).trans (mv_t1 (by omega))) ?_
      refine hz_ic_ne (pc := 67) C (tgt := 74) dX11_whichOnes_67 rfl (fun c2 => ?_) (fun c2 => ?_)
      · refine hz_iconst (pc := 74) C (v := nI 0) dX11_whichOnes_74 (by decide +kernel) ?_
        refine hz_istore_n (pc := 75) C (ls' := [some (.ref 146), w1, some (.int (nI k)), some (.int (nI 0)), some (.int (nI i))]) dX11_whichOnes_75 (Nat.le_of_ble_eq_true rfl) rfl ?_
        refine hz_iinc (pc := 76) C (v := nI (i + 1)) (ls' := [some (.ref 146), w1, some (.int (nI k)), some (.int (nI 0)), some (.int (nI (i + 1)))]) dX11_whichOnes_76 rfl (nI_add _ 1) rfl ?_
        refine hz_goto (pc := 79) C (tgt := 20) dX11_whichOnes_79 rfl ?_
        have h9 := ih (i + 1) (by omega)
        rw [hz_b0 (p := allb (fit1 u k) (i + 1) = true) (by simp only [allb, Bool.and_eq_true, fit1, decide_eq_true_eq]; exact fun z => c2 ((en_eq (en_le u hnr) hnq).mpr z.2))] at h9
        exact h9
      · refine hz_iconst (pc := 70) C (v := nI 1) dX11_whichOnes_70 (by decide +kernel) ?_
        refine hz_goto (pc := 71) C (tgt := 75) dX11_whichOnes_71 rfl ?_
        refine hz_istore_n (pc := 75) C (ls' := [some (.ref 146), w1, some (.int (nI k)), some (.int (nI 1)), some (.int (nI i))]) dX11_whichOnes_75 (Nat.le_of_ble_eq_true rfl) rfl ?_
        refine hz_iinc (pc := 76) C (v := nI (i + 1)) (ls' := [some (.ref 146), w1, some (.int (nI k)), some (.int (nI 1)), some (.int (nI (i + 1)))]) dX11_whichOnes_76 rfl (nI_add _ 1) rfl ?_
        refine hz_goto (pc := 79) C (tgt := 20) dX11_whichOnes_79 rfl ?_
        have h9 := ih (i + 1) (by omega)
        rw [hz_b1 (p := allb (fit1 u k) (i + 1) = true) (by simp only [allb, Bool.and_eq_true, fit1, decide_eq_true_eq]; exact ⟨c1, (en_eq (en_le u hnr) hnq).mp c2⟩)] at h9
        exact h9
set_option maxHeartbeats 4000000 in
set_option maxRecDepth 100000 in
theorem lp_w1 {X : hz_X} (C : hz_C X mX11_whichOnes) {I : Nat → Nat → Int32} {L : Nat → Nat → Int64} {q : Nat → Nat → Nat} {u : Nat → Nat} (V : MF I u) (U : WU u) (kk : ∀ w3 w4 : Option Value, hz_G X TT NN (I, L, PP q) 0 0 102 [some (.ref 146), some (.int (nI (bsum (fit u) (u 64)))), some (.int (nI (u 64))), w3, w4] []) : ∀ (n i : Nat) (w3 w4 : Option Value), i + n = u 64 → hz_G X TT NN (I, L, PP q) 0 0 4 [some (.ref 146), some (.int (nI (bsum (fit u) i))), some (.int (nI i)), w3, w4] [] := by
  intro n
  induction n with
  | zero =>
    intro i w3 w4 hi 
    obtain rfl : i = u 64 := by omega
    have hal := wu_al U
    refine hz_iload_n (pc := 4) C dX11_whichOnes_4 rfl ?_
    refine hz_aload_n (pc := 5) C dX11_whichOnes_5 rfl ?_
    refine hz_getP (pc := 6) C (v := 147) ffX11_7 dX11_whichOnes_6 hT146 hA146 rfl (hP146_0 q) (by decide) ?_
    refine hz_bipush (pc := 9) C (v := nI 64) dX11_whichOnes_9 (by decide +kernel) ?_
    refine hz_iald (pc := 11) C (v := nI (u 64)) (j := 64) dX11_whichOnes_11 hT147 hA147 rfl (by decide) (by decide) (mg V.1 (by omega) (by omega)) ?_
    refine hz_ic_ge (pc := 12) C (tgt := 102) dX11_whichOnes_12 rfl (fun _ => ?_) (fun cq => absurd (nI_le (by omega) (by omega)) cq)
    exact kk _ _
  | succ n ih =>
    intro i w3 w4 hi 
    have hal := wu_al U
    refine hz_iload_n (pc := 4) C dX11_whichOnes_4 rfl ?_
    refine hz_aload_n (pc := 5) C dX11_whichOnes_5 rfl ?_
    refine hz_getP (pc := 6) C (v := 147) ffX11_7 dX11_whichOnes_6 hT146 hA146 rfl (hP146_0 q) (by decide) ?_
    refine hz_bipush (pc := 9) C (v := nI 64) dX11_whichOnes_9 (by decide +kernel) ?_
    refine hz_iald (pc := 11) C (v := nI (u 64)) (j := 64) dX11_whichOnes_11 hT147 hA147 rfl (by decide) (by decide) (mg V.1 (by omega) (by omega)) ?_
    refine hz_ic_ge (pc := 12) C (tgt := 102) dX11_whichOnes_12 rfl (fun cq => absurd cq (nI_ge (by omega) (by omega))) (fun _ => ?_)
    refine hz_iconst (pc := 15) C (v := nI 1) dX11_whichOnes_15 (by decide +kernel) ?_
    refine hz_istore_n (pc := 16) C (ls' := [some (.ref 146), some (.int (nI (bsum (fit u) i))), some (.int (nI i)), some (.int (nI 1)), w4]) dX11_whichOnes_16 (Nat.le_of_ble_eq_true rfl) rfl ?_
    refine hz_iconst (pc := 17) C (v := nI 0) dX11_whichOnes_17 (by decide +kernel) ?_
    refine hz_istore (pc := 18) C (ls' := [some (.ref 146), some (.int (nI (bsum (fit u) i))), some (.int (nI i)), some (.int (nI 1)), some (.int (nI 0))]) dX11_whichOnes_18 (Nat.le_of_ble_eq_true rfl) rfl ?_
    refine lp_w2 C V U (k := i) (by omega) ?_ (u 77) 0 (by omega)
    refine hz_iload_n (pc := 82) C dX11_whichOnes_82 rfl ?_
    refine hz_iload_n (pc := 83) C dX11_whichOnes_83 rfl ?_
    refine hz_ifb_eq (pc := 84) C (tgt := 93) dX11_whichOnes_84 rfl (fun c1 => ?_) (fun c1 => ?_)
    · refine hz_iconst (pc := 93) C (v := nI 0) dX11_whichOnes_93 (by decide +kernel) ?_
      refine hz_ior (pc := 94) C dX11_whichOnes_94 rfl ?_
      refine hz_istore_n (pc := 95) C (ls' := [some (.ref 146), some (.int ((nI (bsum (fit u) i)) ||| (nI 0))), some (.int (nI i)), some (.int (hz_b (fit u i = true))), some (.int (nI (u 77)))]) dX11_whichOnes_95 (Nat.le_of_ble_eq_true rfl) rfl ?_
      refine hz_iinc (pc := 96) C (v := nI (i + 1)) (ls' := [some (.ref 146), some (.int ((nI (bsum (fit u) i)) ||| (nI 0))), some (.int (nI (i + 1))), some (.int (hz_b (fit u i = true))), some (.int (nI (u 77)))]) dX11_whichOnes_96 rfl (nI_add _ 1) rfl ?_
      refine hz_goto (pc := 99) C (tgt := 4) dX11_whichOnes_99 rfl ?_
      rw [bor_0 (by omega), ← bsum_f (f := fit u) (n := i) c1]
      exact ih (i + 1) _ _ (by omega)
    · refine hz_iconst (pc := 87) C (v := nI 1) dX11_whichOnes_87 (by decide +kernel) ?_
      refine hz_iload_n (pc := 88) C dX11_whichOnes_88 rfl ?_
      refine hz_ishl (pc := 89) C dX11_whichOnes_89 rfl ?_
      refine hz_goto (pc := 90) C (tgt := 94) dX11_whichOnes_90 rfl ?_
      refine hz_ior (pc := 94) C dX11_whichOnes_94 rfl ?_
      refine hz_istore_n (pc := 95) C (ls' := [some (.ref 146), some (.int ((nI (bsum (fit u) i)) ||| ((nI 1) <<< ((nI i) &&& 31)))), some (.int (nI i)), some (.int (hz_b (fit u i = true))), some (.int (nI (u 77)))]) dX11_whichOnes_95 (Nat.le_of_ble_eq_true rfl) rfl ?_
      refine hz_iinc (pc := 96) C (v := nI (i + 1)) (ls' := [some (.ref 146), some (.int ((nI (bsum (fit u) i)) ||| ((nI 1) <<< ((nI i) &&& 31)))), some (.int (nI (i + 1))), some (.int (hz_b (fit u i = true))), some (.int (nI (u 77)))]) dX11_whichOnes_96 rfl (nI_add _ 1) rfl ?_
      refine hz_goto (pc := 99) C (tgt := 4) dX11_whichOnes_99 rfl ?_
      rw [bor_add (by omega), ← bsum_t (f := fit u) (n := i) c1]
      exact ih (i + 1) _ _ (by omega)
set_option maxHeartbeats 4000000 in
set_option maxRecDepth 100000 in
theorem ev_whichOnes {I : Nat → Nat → Int32} {L : Nat → Nat → Int64} {q : Nat → Nat → Nat} {u : Nat → Nat} (V : MF I u) (U : WU u) : hz_Ev mX11_whichOnes TT NN (I, L, PP q) [.ref 146] 0 0 (some (.int (nI (bsum (fit u) (u 64))))) TT NN (I, L, PP q) := by
  refine hz_Ev.intro (ls := [some (.ref 146), none, none, none, none]) (by decide +kernel) rfl (Nat.le_of_ble_eq_true rfl) (fun X C Z _ => ?_)
  refine hz_iconst (pc := 0) C (v := nI 0) dX11_whichOnes_0 (by decide +kernel) ?_
  refine hz_istore_n (pc := 1) C (ls' := [some (.ref 146), some (.int (nI 0)), none, none, none]) dX11_whichOnes_1 (Nat.le_of_ble_eq_true rfl) rfl ?_
  refine hz_iconst (pc := 2) C (v := nI 0) dX11_whichOnes_2 (by decide +kernel) ?_
  refine hz_istore_n (pc := 3) C (ls' := [some (.ref 146), some (.int (nI 0)), some (.int (nI 0)), none, none]) dX11_whichOnes_3 (Nat.le_of_ble_eq_true rfl) rfl ?_
  refine lp_w1 C V U (fun w3 w4 => ?_) (u 64) 0 _ _ (by omega)
  refine hz_iload_n (pc := 102) C dX11_whichOnes_102 rfl ?_
  exact hz_iret C Z rfl dX11_whichOnes_103 rfl rfl

set_option maxHeartbeats 4000000 in
set_option maxRecDepth 100000 in
theorem hv_rst {q : Nat → Nat → Nat} {I : Nat → Nat → Int32} (H : HP 12 q)  : HV 12 q (hz_up (hz_up (hz_up (hz_up (hz_up (hz_up (hz_up (hz_up (hz_sa I 13 (fun _ => (-1 : Int32))) 12 9 (nI 0)) 12 10 (nI 0)) 12 11 (nI 0)) 12 12 (nI 0)) 19 1 (nI 0)) 19 2 (nI 0)) 19 3 (nI 3)) 19 4 (nI 0)) (u0) := by
  refine ⟨fun j h => ?_, ?_, fun k h => ?_, fun k h => ?_, ?_, fun i h => ?_, ?_, ?_, fun i h => ?_, ?_, ?_⟩
  · simp (disch := omega) only [Nat.reduceAdd, hz_up_ne, hz_up_eq, sa_ne, sa_eq, va_up_ne, va_up_self, mcp_o]
    have e : u0 j = 0 := by unfold u0; rw [if_neg (by omega), if_neg (by simp only [isT, Bool.or_eq_true, decide_eq_true_eq]; omega)]
    rw [e]; rfl
  · simp (disch := omega) only [Nat.reduceAdd, hz_up_ne, hz_up_eq, sa_ne, sa_eq, va_up_ne, va_up_self, mcp_o]
    rfl
  · exact absurd h (Nat.not_lt_zero _)
  · exact absurd h (Nat.not_lt_zero _)
  · simp (disch := omega) only [Nat.reduceAdd, hz_up_ne, hz_up_eq, sa_ne, sa_eq, va_up_ne, va_up_self, mcp_o]
    rfl
  · exact absurd h (Nat.not_lt_zero _)
  · refine ⟨by simp (disch := omega) only [Nat.reduceAdd, hz_up_ne, hz_up_eq, sa_ne, sa_eq, va_up_ne, va_up_self, mcp_o]; rfl, by simp (disch := omega) only [Nat.reduceAdd, hz_up_ne, hz_up_eq, sa_ne, sa_eq, va_up_ne, va_up_self, mcp_o]; rfl, by simp (disch := omega) only [Nat.reduceAdd, hz_up_ne, hz_up_eq, sa_ne, sa_eq, va_up_ne, va_up_self, mcp_o]; rfl, by simp (disch := omega) only [Nat.reduceAdd, hz_up_ne, hz_up_eq, sa_ne, sa_eq, va_up_ne, va_up_self, mcp_o]; rfl, fun k h => absurd h (Nat.not_lt_zero _)⟩
  · simp (disch := omega) only [Nat.reduceAdd, hz_up_ne, hz_up_eq, sa_ne, sa_eq, va_up_ne, va_up_self, mcp_o]
    rfl
  · exact absurd h (Nat.not_lt_zero _)
  · exact H
  · exact Or.inl (by simp (disch := omega) only [Nat.reduceAdd, hz_up_ne, hz_up_eq, sa_ne, sa_eq, va_up_ne, va_up_self, mcp_o]; exact nI_0)
theorem dv_rst {q : Nat → Nat → Nat} (J : Nat → Nat → Int32) (H : HP 45 q) : DV q (hz_up (hz_up (hz_up (hz_up (hz_up (hz_up (hz_up (hz_up (hz_sa J 46 (fun _ => (-1 : Int32))) 45 9 (nI 0)) 45 10 (nI 0)) 45 11 (nI 0)) 45 12 (nI 0)) 52 1 (nI 0)) 52 2 (nI 0)) 52 3 (nI 3)) 52 4 (nI 0)) u0 := by
  refine Eq.mp (congrArg (fun z => HV 12 (rq q) z u0) (?_ : _ = rJ _)) (hv_rst (I := rJ J) (hp_rq H))
  rw [rJ_u (a := 19) (b := 52) rfl, rJ_u (a := 19) (b := 52) rfl, rJ_u (a := 19) (b := 52) rfl, rJ_u (a := 19) (b := 52) rfl, rJ_u (a := 12) (b := 45) rfl, rJ_u (a := 12) (b := 45) rfl, rJ_u (a := 12) (b := 45) rfl, rJ_u (a := 12) (b := 45) rfl, rJ_s (a := 13) (b := 46) rfl]
theorem tf_rst (J : Nat → Nat → Int32) : tF J (hz_up (hz_up (hz_up (hz_up (hz_up (hz_up (hz_up (hz_up (hz_sa J 46 (fun _ => (-1 : Int32))) 45 9 (nI 0)) 45 10 (nI 0)) 45 11 (nI 0)) 45 12 (nI 0)) 52 1 (nI 0)) 52 2 (nI 0)) 52 3 (nI 3)) 52 4 (nI 0)) := ⟨fun a h1 h2 => by simp (disch := omega) only [hz_up_ne, sa_ne], by simp (disch := omega) only [hz_up_ne, sa_ne]⟩
theorem m10_le : ∀ b, b < 151 → (-10 : Int32) - nI b ≤ 0 := by decide +kernel
theorem nIp_le : ∀ b, b < 151 → 0 < b → ¬ nI b ≤ 0 := by decide +kernel
theorem pT_sg {t : Nat} {x : Nat → Nat} (ht : t ≤ 150) : ∀ (n i s : Nat) (u : Nat → Nat), i + n ≤ 150 → s ≤ t → ((pT t x n i s u).1 = true → ¬ (pT t x n i s u).2.1 ≤ 0) ∧ (¬ (pT t x n i s u).1 = true → (pT t x n i s u).2.1 ≤ 0) := by
  intro n
  induction n with
  | zero =>
    intro i s u hi hs
    have hb := nxe_ok x hs
    exact ⟨fun z => absurd (show false = true from z) (by decide), fun _ => m10_le _ (by omega)⟩
  | succ n ih =>
    intro i s u hi hs
    by_cases h : 0 < i ∧ kc t x s = 0
    · rw [pT_end h.1 h.2]
      exact ⟨fun _ => nIp_le i (by omega) h.1, fun z => absurd rfl z⟩
    · by_cases hq : (pItem t x u (decide (i = 0)) s).1 = true
      · rw [pT_go rfl h hq]
        exact ih (i + 1) _ _ (by omega) (pItem_le hs)
      · rw [pT_no rfl h hq]
        have hb := nxe_ok x (pItem_le (x := x) (u := u) (b := decide (i = 0)) hs)
        exact ⟨fun z => absurd (show false = true from z) (by decide), fun _ => m10_le _ (by omega)⟩
set_option maxHeartbeats 4000000 in
set_option maxRecDepth 100000 in
theorem ex_readY {J : Nat → Nat → Int32} {L : Nat → Nat → Int64} {q : Nat → Nat → Nat} {t : Nat} {x : Nat → Nat} (X0 : tx J t x) (H : HP 45 q) (hR : (pT t x 150 0 0 u0).1 = true) : hz_Ex mX10_read TT NN (J, L, PP q) [.ref 1] (hz_PI L (hz_up (hz_up (PP q) 1 4 45) 1 5 12) (some (.int (pT t x 150 0 0 u0).2.1)) (fun K => tF J K ∧ DV q K (pT t x 150 0 0 u0).2.2 ∧ WU (pT t x 150 0 0 u0).2.2)) := by
  have hsg := pT_sg (x := x) X0.1 150 0 0 u0 (by decide) (Nat.zero_le t)
  refine hz_Ex.intro (ls := [some (.ref 1), none, none]) (by decide +kernel) rfl (Nat.le_of_ble_eq_true rfl) (fun X C Z => ?_)
  refine hz_aload_n (pc := 0) C dX10_read_0 rfl ?_
  refine hz_getP (pc := 1) C (v := 45) ffX10_30 dX10_read_1 hT1 hA1 rfl (hP1_5 q) (by decide) ?_
  refine hz_callVv (pc := 4) C (as := []) (st := []) ev_resetD (hz_new0 _ _) fyX2_reset fvX10_52 rfl dX10_read_4 hT45 rfl rfl hA45 rfl rfl (Nat.le_of_ble_eq_true rfl) (by decide) (hz_cap0 _) ?_
  refine hz_aload_n (pc := 7) C dX10_read_7 rfl ?_
  refine hz_getP (pc := 8) C (v := 2) ffX10_10 dX10_read_8 hT1 hA1 rfl (hP1_0 q) (by decide) ?_
  refine hz_aload_n (pc := 11) C dX10_read_11 rfl ?_
  refine hz_getP (pc := 12) C (v := 45) ffX10_30 dX10_read_12 hT1 hA1 rfl (hP1_5 q) (by decide) ?_
  refine hz_callVxs (pc := 15) C (as := [.ref 45]) (st := []) (ex_tell ((tf_rst J).tx X0) (dv_rst J H) wu_0) fyX8_tell fvX10_91 rfl dX10_read_15 hT2 rfl rfl hA2 rfl rfl (Nat.le_of_ble_eq_true rfl) (by decide) (hz_cap0 _) (fun K h1 => ?_)
  refine hz_istore_n (pc := 18) C (ls' := [some (.ref 1), some (.int ((pT t x 150 0 0 u0).2.1)), none]) dX10_read_18 (Nat.le_of_ble_eq_true rfl) rfl ?_
  refine hz_iload_n (pc := 19) C dX10_read_19 rfl ?_
  refine hz_if_le (pc := 20) C (tgt := 41) dX10_read_20 rfl (fun cq => absurd cq (hsg.1 hR)) (fun _ => ?_)
  refine hz_aload_n (pc := 23) C dX10_read_23 rfl ?_
  refine hz_getP (pc := 24) C (v := 12) ffX10_26 dX10_read_24 hT1 hA1 rfl (hP1_4 q) (by decide) ?_
  refine hz_astore_n (pc := 27) C (ls' := [some (.ref 1), some (.int ((pT t x 150 0 0 u0).2.1)), some (.ref 12)]) dX10_read_27 (Nat.le_of_ble_eq_true rfl) rfl ?_
  refine hz_aload_n (pc := 28) C dX10_read_28 rfl ?_
  refine hz_aload_n (pc := 29) C dX10_read_29 rfl ?_
  refine hz_getP (pc := 30) C (v := 45) ffX10_30 dX10_read_30 hT1 hA1 rfl (hP1_5 q) (by decide) ?_
  refine hz_putP (pc := 33) C (M' := (K, L, hz_up (PP q) 1 4 45)) ffX10_26 dX10_read_33 hT1 hA1 rfl rfl (fun _ => ⟨rfl, rfl⟩) (Nat.succ_ne_zero _) rfl ?_
  refine hz_aload_n (pc := 36) C dX10_read_36 rfl ?_
  refine hz_aload_n (pc := 37) C dX10_read_37 rfl ?_
  refine hz_putP (pc := 38) C (M' := (K, L, hz_up (hz_up (PP q) 1 4 45) 1 5 12)) ffX10_30 dX10_read_38 hT1 hA1 rfl rfl (fun _ => ⟨rfl, rfl⟩) (Nat.succ_ne_zero _) rfl ?_
  refine hz_iload_n (pc := 41) C dX10_read_41 rfl ?_
  exact hz_iretx C Z rfl dX10_read_42 ⟨K, rfl, rfl, (tf_rst J).tr h1.1, (h1.2 hR).1, (h1.2 hR).2⟩
set_option maxHeartbeats 4000000 in
set_option maxRecDepth 100000 in
theorem ex_readN {J : Nat → Nat → Int32} {L : Nat → Nat → Int64} {q : Nat → Nat → Nat} {t : Nat} {x : Nat → Nat} (X0 : tx J t x) (H : HP 45 q) (hR : ¬ (pT t x 150 0 0 u0).1 = true) : hz_Ex mX10_read TT NN (J, L, PP q) [.ref 1] (hz_PI L (PP q) (some (.int (pT t x 150 0 0 u0).2.1)) (fun K => tF J K)) := by
  have hsg := pT_sg (x := x) X0.1 150 0 0 u0 (by decide) (Nat.zero_le t)
  refine hz_Ex.intro (ls := [some (.ref 1), none, none]) (by decide +kernel) rfl (Nat.le_of_ble_eq_true rfl) (fun X C Z => ?_)
  refine hz_aload_n (pc := 0) C dX10_read_0 rfl ?_
  refine hz_getP (pc := 1) C (v := 45) ffX10_30 dX10_read_1 hT1 hA1 rfl (hP1_5 q) (by decide) ?_
  refine hz_callVv (pc := 4) C (as := []) (st := []) ev_resetD (hz_new0 _ _) fyX2_reset fvX10_52 rfl dX10_read_4 hT45 rfl rfl hA45 rfl rfl (Nat.le_of_ble_eq_true rfl) (by decide) (hz_cap0 _) ?_
  refine hz_aload_n (pc := 7) C dX10_read_7 rfl ?_
  refine hz_getP (pc := 8) C (v := 2) ffX10_10 dX10_read_8 hT1 hA1 rfl (hP1_0 q) (by decide) ?_
  refine hz_aload_n (pc := 11) C dX10_read_11 rfl ?_
  refine hz_getP (pc := 12) C (v := 45) ffX10_30 dX10_read_12 hT1 hA1 rfl (hP1_5 q) (by decide) ?_
  refine hz_callVxs (pc := 15) C (as := [.ref 45]) (st := []) (ex_tell ((tf_rst J).tx X0) (dv_rst J H) wu_0) fyX8_tell fvX10_91 rfl dX10_read_15 hT2 rfl rfl hA2 rfl rfl (Nat.le_of_ble_eq_true rfl) (by decide) (hz_cap0 _) (fun K h1 => ?_)
  refine hz_istore_n (pc := 18) C (ls' := [some (.ref 1), some (.int ((pT t x 150 0 0 u0).2.1)), none]) dX10_read_18 (Nat.le_of_ble_eq_true rfl) rfl ?_
  refine hz_iload_n (pc := 19) C dX10_read_19 rfl ?_
  refine hz_if_le (pc := 20) C (tgt := 41) dX10_read_20 rfl (fun _ => ?_) (fun cq => absurd (hsg.2 hR) cq)
  refine hz_iload_n (pc := 41) C dX10_read_41 rfl ?_
  exact hz_iretx C Z rfl dX10_read_42 ⟨K, rfl, rfl, (tf_rst J).tr h1.1⟩

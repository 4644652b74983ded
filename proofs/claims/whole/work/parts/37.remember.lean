def rt8 (q : Nat → Nat → Nat) : Nat → Nat → Nat := hz_up (rt q 8) 21 7 (q 21 0)
theorem rt8_up (I : Nat → Nat → Int32) (L : Nat → Nat → Int64) (q : Nat → Nat → Nat) : hz_uP (I, L, PP (rt q 8)) 21 7 (q 21 0) = (I, L, PP (rt8 q)) := by
  unfold hz_uP
  show (I, L, hz_up (PP (rt q 8)) 21 7 (q 21 0)) = _
  rw [pp_up]
  rfl
theorem rt8_7 (q : Nat → Nat → Nat) : PP (rt8 q) 21 7 = q 21 0 := by
  rw [pp_q _ (Or.inl rfl)]
  simp [rt8, hz_up, va_up]
theorem mq_x {q q2 : Nat → Nat → Nat} (H : HP 12 q) {i : Nat} (hi : i < 8) : MP q2 (q 21 i) := by
  obtain ⟨j, hj, e⟩ := H.1 i hi
  have e2 : q 21 i = 12 + 17 + 2 * j := e
  rw [e2]
  exact mp_12 q2 hj
set_option maxHeartbeats 4000000 in
set_option maxRecDepth 100000 in
theorem ev_remember {I : Nat → Nat → Int32} {L : Nat → Nat → Int64} {q : Nat → Nat → Nat} {n : Nat} (H : HP 12 q) (hn : I 12 12 = nI n) (hn8 : n < 8) : hz_Ev mX2_remember TT NN (I, L, PP q) [.ref 12] 0 0 none TT NN (hz_up (mcp I (q 21 n) 19) 12 12 (nI (n + 1)), L, PP q) := by
  obtain ⟨hq0, hq1, hq2⟩ := mq_12 H (i := n) hn8
  refine hz_Ev.intro (ls := [some (.ref 12), none, none]) (by decide +kernel) rfl (Nat.le_of_ble_eq_true rfl) (fun X C Z _ => ?_)
  refine hz_aload_n (pc := 0) C dX2_remember_0 rfl ?_
  refine hz_getI (pc := 1) C (v := nI n) ffX2_77 dX2_remember_1 hT12 hA12 rfl hn ?_
  refine hz_bipush (pc := 4) C (v := nI 8) dX2_remember_4 (by decide +kernel) ?_
  refine hz_ic_lt (pc := 6) C (tgt := 58) dX2_remember_6 rfl (fun _ => ?_) (fun cq => absurd (nI_lt (by omega) (by omega)) cq)
  refine hz_aload_n (pc := 58) C dX2_remember_58 rfl ?_
  refine hz_getP (pc := 59) C (v := 21) ffX2_37 dX2_remember_59 hT12 hA12 rfl (hP12_8 q) (by decide) ?_
  refine hz_aload_n (pc := 62) C dX2_remember_62 rfl ?_
  refine hz_getI (pc := 63) C (v := nI n) ffX2_77 dX2_remember_63 hT12 hA12 rfl hn ?_
  refine hz_aald (pc := 66) C (v := q 21 n) (j := n) dX2_remember_66 hT21 (Or.inr (Or.inl rfl)) hA21 rfl (by omega) (by decide) (pp_q _ (Or.inl rfl) n) (by omega) ?_
  refine hz_aload_n (pc := 67) C dX2_remember_67 rfl ?_
  refine hz_getP (pc := 68) C (v := 19) ffX2_33 dX2_remember_68 hT12 hA12 rfl (hP12_7 q) (by decide) ?_
  refine hz_callVv (pc := 71) C (as := [.ref 19]) (st := []) (ev_mcp (by omega) hq0 (mn_12 _)) (hz_new0 _ _) fyX3_copyFrom fvX2_98 rfl dX2_remember_71 hq0.1 rfl rfl hq0.2.1 rfl rfl (Nat.le_of_ble_eq_true rfl) (by decide) (hz_cap0 _) ?_
  refine hz_aload_n (pc := 74) C dX2_remember_74 rfl ?_
  refine hz_dup (pc := 75) C dX2_remember_75 rfl ?_
  refine hz_getI (pc := 76) C (v := nI n) ffX2_77 dX2_remember_76 hT12 hA12 rfl ((congrFun (mcp_o (by omega) (by omega)) 12).trans hn) ?_
  refine hz_iconst (pc := 79) C (v := nI 1) dX2_remember_79 (by decide +kernel) ?_
  refine hz_iadd (pc := 80) C (v := nI (n + 1)) dX2_remember_80 (nI_add _ _) ?_
  refine hz_putI (pc := 81) C (M' := (hz_up (mcp I (q 21 n) 19) 12 12 (nI (n + 1)), L, PP q)) ffX2_77 dX2_remember_81 hT12 hA12 rfl rfl ⟨rfl, rfl⟩ rfl ?_
  exact hz_vret C Z rfl dX2_remember_84 rfl
set_option maxHeartbeats 4000000 in
set_option maxRecDepth 100000 in
theorem ev_remember8 {I : Nat → Nat → Int32} {L : Nat → Nat → Int64} {q : Nat → Nat → Nat} (H : HP 12 q) (hn : I 12 12 = nI 8) : hz_Ev mX2_remember TT NN (I, L, PP q) [.ref 12] 0 0 none TT NN (hz_up (mcp (hz_up I 12 12 (nI 7)) (q 21 0) 19) 12 12 (nI 8), L, PP (rt8 q)) := by
  obtain ⟨hq0, hq1, hq2⟩ := mq_12 H (i := 0) (by decide)
  refine hz_Ev.intro (ls := [some (.ref 12), none, none]) (by decide +kernel) rfl (Nat.le_of_ble_eq_true rfl) (fun X C Z _ => ?_)
  refine hz_aload_n (pc := 0) C dX2_remember_0 rfl ?_
  refine hz_getI (pc := 1) C (v := nI 8) ffX2_77 dX2_remember_1 hT12 hA12 rfl hn ?_
  refine hz_bipush (pc := 4) C (v := nI 8) dX2_remember_4 (by decide +kernel) ?_
  refine hz_ic_lt (pc := 6) C (tgt := 58) dX2_remember_6 rfl (fun cq => absurd cq (by decide +kernel)) (fun _ => ?_)
  refine hz_aload_n (pc := 9) C dX2_remember_9 rfl ?_
  refine hz_getP (pc := 10) C (v := 21) ffX2_37 dX2_remember_10 hT12 hA12 rfl (hP12_8 q) (by decide) ?_
  refine hz_iconst (pc := 13) C (v := nI 0) dX2_remember_13 (by decide +kernel) ?_
  refine hz_aald (pc := 14) C (v := q 21 0) (j := 0) dX2_remember_14 hT21 (Or.inr (Or.inl rfl)) hA21 rfl (by decide) (by decide) (pp_q _ (Or.inl rfl) 0) (by omega) ?_
  refine hz_astore_n (pc := 15) C (ls' := [some (.ref 12), some (.ref (q 21 0)), none]) dX2_remember_15 (Nat.le_of_ble_eq_true rfl) rfl ?_
  refine hz_iconst (pc := 16) C (v := nI 1) dX2_remember_16 (by decide +kernel) ?_
  refine hz_istore_n (pc := 17) C (ls' := [some (.ref 12), some (.ref (q 21 0)), some (.int (nI 1))]) dX2_remember_17 (Nat.le_of_ble_eq_true rfl) rfl ?_
  refine Eq.mp (by rw [rt_1]) (?_ : hz_G X TT NN (I, L, PP (rt q 1)) 0 0 18 [some (.ref 12), some (.ref (q 21 0)), some (.int (nI 1))] [])
  refine lp_turn C H ?_ 7 1 (by omega) (by omega)
  refine hz_aload_n (pc := 44) C dX2_remember_44 rfl ?_
  refine hz_getP (pc := 45) C (v := 21) ffX2_37 dX2_remember_45 hT12 hA12 rfl (hP12_8 (rt q 8)) (by decide) ?_
  refine hz_bipush (pc := 48) C (v := nI 7) dX2_remember_48 (by decide +kernel) ?_
  refine hz_aload_n (pc := 50) C dX2_remember_50 rfl ?_
  refine hz_aast3 (pc := 51) C (j := 7) (M' := (I, L, PP (rt8 q))) dX2_remember_51 hT21 hA21 hq0.1 hq0.2.1 rfl (by decide) (by decide) (rt8_up _ _ q) ?_
  refine hz_aload_n (pc := 52) C dX2_remember_52 rfl ?_
  refine hz_bipush (pc := 53) C (v := nI 7) dX2_remember_53 (by decide +kernel) ?_
  refine hz_putI (pc := 55) C (M' := (hz_up I 12 12 (nI 7), L, PP (rt8 q))) ffX2_77 dX2_remember_55 hT12 hA12 rfl rfl ⟨rfl, rfl⟩ rfl ?_
  refine hz_aload_n (pc := 58) C dX2_remember_58 rfl ?_
  refine hz_getP (pc := 59) C (v := 21) ffX2_37 dX2_remember_59 hT12 hA12 rfl (hP12_8 (rt8 q)) (by decide) ?_
  refine hz_aload_n (pc := 62) C dX2_remember_62 rfl ?_
  refine hz_getI (pc := 63) C (v := nI 7) ffX2_77 dX2_remember_63 hT12 hA12 rfl rfl ?_
  refine hz_aald (pc := 66) C (v := q 21 0) (j := 7) dX2_remember_66 hT21 (Or.inr (Or.inl rfl)) hA21 rfl (by decide) (by decide) (rt8_7 q) (by omega) ?_
  refine hz_aload_n (pc := 67) C dX2_remember_67 rfl ?_
  refine hz_getP (pc := 68) C (v := 19) ffX2_33 dX2_remember_68 hT12 hA12 rfl (hP12_7 (rt8 q)) (by decide) ?_
  refine hz_callVv (pc := 71) C (as := [.ref 19]) (st := []) (ev_mcp (by omega) (mq_x H (by decide)) (mn_12 _)) (hz_new0 _ _) fyX3_copyFrom fvX2_98 rfl dX2_remember_71 hq0.1 rfl rfl hq0.2.1 rfl rfl (Nat.le_of_ble_eq_true rfl) (by decide) (hz_cap0 _) ?_
  refine hz_aload_n (pc := 74) C dX2_remember_74 rfl ?_
  refine hz_dup (pc := 75) C dX2_remember_75 rfl ?_
  refine hz_getI (pc := 76) C (v := nI 7) ffX2_77 dX2_remember_76 hT12 hA12 rfl ((congrFun (mcp_o (by omega) (by omega)) 12).trans rfl) ?_
  refine hz_iconst (pc := 79) C (v := nI 1) dX2_remember_79 (by decide +kernel) ?_
  refine hz_iadd (pc := 80) C (v := nI 8) dX2_remember_80 (nI_add _ _) ?_
  refine hz_putI (pc := 81) C (M' := (hz_up (mcp (hz_up I 12 12 (nI 7)) (q 21 0) 19) 12 12 (nI 8), L, PP (rt8 q))) ffX2_77 dX2_remember_81 hT12 hA12 rfl rfl ⟨rfl, rfl⟩ rfl ?_
  exact hz_vret C Z rfl dX2_remember_84 rfl

theorem mg_b (J : Nat → Nat → Int32) : mG J (hz_up (hz_up (hz_sa J 148 (bg (J 148))) 146 9 (nI 0)) 146 14 (nI 0)) := ((show mG J (hz_sa J 148 (bg (J 148))) from ⟨fun a _ h2 => sa_ne _ _ _ h2, by rw [sa_ne _ _ _ (by decide)]⟩).up (by decide) _).up (by decide) _
set_option maxHeartbeats 4000000 in
set_option maxRecDepth 100000 in
theorem ex_isRead {J : Nat → Nat → Int32} {L : Nat → Nat → Int64} {q : Nat → Nat → Nat} {t : Nat} {x : Nat → Nat} (X0 : mxt J t x) : hz_Ex mX11_isRead TT NN (J, L, PP q) [.ref 146] (hz_PL (PP q) (some (.int (bI (pT t x 150 0 0 u0).1))) (qP J L (pT t x 150 0 0 u0))) := by
  refine hz_Ex.intro (ls := [some (.ref 146)]) (by decide +kernel) rfl (Nat.le_of_ble_eq_true rfl) (fun X C Z => ?_)
  refine hz_aload_n (pc := 0) C dX11_isRead_0 rfl ?_
  refine hz_getP (pc := 1) C (v := 148) ffX11_13 dX11_isRead_1 hT146 hA146 rfl (hP146_1 q) (by decide) ?_
  refine hz_callSv (pc := 4) C (as := [.ref 148]) (st := []) ev_begin148 (hz_new0 _ _) fyX11_begin fsX11_48 rfl dX11_isRead_4 rfl rfl (Nat.le_of_ble_eq_true rfl) (by decide) (hz_cap0 _) ?_
  refine hz_aload_n (pc := 7) C dX11_isRead_7 rfl ?_
  refine hz_iconst (pc := 8) C (v := nI 0) dX11_isRead_8 (by decide +kernel) ?_
  refine hz_putI (pc := 9) C (M' := (hz_up (hz_sa J 148 (bg (J 148))) 146 9 (nI 0), L, PP q)) ffX11_75 dX11_isRead_9 hT146 hA146 rfl rfl ⟨rfl, rfl⟩ rfl ?_
  refine hz_aload_n (pc := 12) C dX11_isRead_12 rfl ?_
  refine hz_iconst (pc := 13) C (v := nI 0) dX11_isRead_13 (by decide +kernel) ?_
  refine hz_putI (pc := 14) C (M' := (hz_up (hz_up (hz_sa J 148 (bg (J 148))) 146 9 (nI 0)) 146 14 (nI 0), L, PP q)) ffX11_105 dX11_isRead_14 hT146 hA146 rfl rfl ⟨rfl, rfl⟩ rfl ?_
  refine hz_aload_n (pc := 17) C dX11_isRead_17 rfl ?_
  refine hz_callVlv (pc := 18) C (as := []) (st := []) (ex_nextT ((mg_b J).mxt X0) (Nat.zero_le t) ((hz_up_nk _ _ _ _ (by decide)).trans (hz_up_self _ _ _ _))) fyX11_nextToken fvX11_98 rfl dX11_isRead_18 hT146 rfl rfl hA146 rfl rfl (Nat.le_of_ble_eq_true rfl) (by decide) (hz_cap0 _) (fun K1 W1 h1 => ?_)
  exact lp_rd C X0 (R := (pT t x 150 0 0 u0)) Z 150 0 K1 W1 0 u0 rfl ⟨(mg_b J).c h1.1, h1.2.1, h1.2.2, Nat.zero_le t, h1.1.mr ((mr_0 J).cong ((hz_up_ne _ _ _ _ (by decide)).trans (hz_up_ne _ _ _ _ (by decide)))), rfl, wu_0, h1.1.2.2.trans (hz_up_self _ _ _ _), Nat.zero_le _, rfl⟩
set_option maxHeartbeats 4000000 in
set_option maxRecDepth 100000 in
theorem ex_readM {J : Nat → Nat → Int32} {L : Nat → Nat → Int64} {q : Nat → Nat → Nat} {t : Nat} {x : Nat → Nat} (X0 : mxt J t x) : hz_Ex mX11_read TT NN (J, L, PP q) [.ref 146] (hz_PL (PP q) (some (.int (pT t x 150 0 0 u0).2.1)) (fun K W => wC L W ∧ (∀ a, a ≠ 146 → a ≠ 147 → a ≠ 148 → K a = J a) ∧ K 146 7 = J 146 7 ∧ ((pT t x 150 0 0 u0).1 = true → MV K (pT t x 150 0 0 u0).2.2) ∧ (¬ (pT t x 150 0 0 u0).1 = true → K 147 = J 147))) := by
  refine hz_Ex.intro (ls := [some (.ref 146)]) (by decide +kernel) rfl (Nat.le_of_ble_eq_true rfl) (fun X C Z => ?_)
  by_cases hk1 : (pT t x 150 0 0 u0).1 = true
  · refine hz_aload_n (pc := 0) C dX11_read_0 rfl ?_
    refine hz_callVls (pc := 1) C (as := []) (st := []) (el_bT hk1 (ex_isRead X0)) fyX11_isRead fvX11_132 rfl dX11_read_1 hT146 rfl rfl hA146 rfl rfl (Nat.le_of_ble_eq_true rfl) (by decide) (hz_cap0 _) (fun K1 W1 h1 => ?_)
    refine hz_if_ne (pc := 4) C (tgt := 15) dX11_read_4 rfl (fun _ => ?_) (fun cq => absurd cq (by decide +kernel))
    refine hz_aload_n (pc := 15) C dX11_read_15 rfl ?_
    refine hz_getP (pc := 16) C (v := 148) ffX11_13 dX11_read_16 hT146 hA146 rfl (hP146_1 q) (by decide) ?_
    refine hz_iconst (pc := 19) C (v := nI 0) dX11_read_19 (by decide +kernel) ?_
    refine hz_aload_n (pc := 20) C dX11_read_20 rfl ?_
    refine hz_getP (pc := 21) C (v := 147) ffX11_7 dX11_read_21 hT146 hA146 rfl (hP146_0 q) (by decide) ?_
    refine hz_iconst (pc := 24) C (v := nI 0) dX11_read_24 (by decide +kernel) ?_
    refine hz_sipush (pc := 25) C (v := nI 181) dX11_read_25 (by decide +kernel) ?_
    refine hz_callSv (pc := 28) C (as := [.ref 148, .int (nI 0), .ref 147, .int (nI 0), .int (nI 181)]) (st := []) (ev_bring148_147 (i := 0) (j := 0) (m := 181) (by decide) (by decide)) (hz_new0 _ _) fyX11_bring fsX11_135 rfl dX11_read_28 rfl rfl (Nat.le_of_ble_eq_true rfl) (by decide) (hz_cap0 _) ?_
    refine hz_aload_n (pc := 31) C dX11_read_31 rfl ?_
    refine hz_getI (pc := 32) C (v := K1 146 14) ffX11_105 dX11_read_32 hT146 hA146 rfl (congrFun (sa_ne K1 147 (va_cpy (K1 148) (K1 147) 0 0 181) (show (146 : Nat) ≠ 147 by decide)) 14) ?_
    exact hz_iretx C Z rfl dX11_read_35 ⟨_, W1, congrArg (fun z => some (Value.int z)) (h1.2.2.1 hk1).2, rfl, h1.2.1, fun a zzg1 zzg2 zzg3 => (sa_ne _ _ _ zzg2).trans (h1.1.1 a zzg1 zzg3), (by rw [sa_ne _ _ _ (by decide)]; exact h1.1.2), fun _ j hj => by rw [sa_eq]; unfold va_cpy; rw [if_pos (by omega)]; simp only [Nat.zero_add, Nat.sub_zero]; exact (h1.2.2.1 hk1).1 j hj, fun z => absurd hk1 z⟩
  · refine hz_aload_n (pc := 0) C dX11_read_0 rfl ?_
    refine hz_callVls (pc := 1) C (as := []) (st := []) (el_bF hk1 (ex_isRead X0)) fyX11_isRead fvX11_132 rfl dX11_read_1 hT146 rfl rfl hA146 rfl rfl (Nat.le_of_ble_eq_true rfl) (by decide) (hz_cap0 _) (fun K1 W1 h1 => ?_)
    refine hz_if_ne (pc := 4) C (tgt := 15) dX11_read_4 rfl (fun cq => absurd (by decide +kernel) cq) (fun _ => ?_)
    refine hz_bipush (pc := 7) C (v := (-10 : Int32)) dX11_read_7 (by decide +kernel) ?_
    refine hz_aload_n (pc := 9) C dX11_read_9 rfl ?_
    refine hz_getI (pc := 10) C (v := K1 146 10) ffX11_78 dX11_read_10 hT146 hA146 rfl rfl ?_
    refine hz_isub (pc := 13) C (v := (-10 : Int32) - K1 146 10) dX11_read_13 rfl ?_
    exact hz_iretx C Z rfl dX11_read_14 ⟨K1, W1, congrArg (fun z => some (Value.int z)) (h1.2.2.2 hk1), rfl, h1.2.1, fun a zzg1 zzg2 zzg3 => h1.1.1 a zzg1 zzg3, h1.1.2, fun z => absurd z hk1, fun _ => h1.1.1 147 (by decide) (by decide)⟩

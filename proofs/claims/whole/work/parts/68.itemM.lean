theorem lc_0 {a b : Int64} : lg_cmp a b = 0 ↔ a = b := by
  unfold lg_cmp
  refine ⟨fun h => ?_, fun h => ?_⟩
  · by_cases e : a = b
    · exact e
    · rw [if_neg e] at h
      split at h
      · exact absurd h (by decide)
      · exact absurd h (by decide)
  · subst h
    rw [if_neg (fun z => Int64.lt_irrefl z), if_pos rfl]
def rItem (t : Nat) (x u : Nat → Nat) (f : Bool) (s : Nat) : pR := if wd t x s 0 = true then (if f = true then rCold t x u (nxe t x s) else (false, s, u)) else if f = true then (false, s, u) else if wd t x s 1 = true then rDoor t x u (nxe t x s) else if wd t x s 2 = true then (if u 64 < 6 then rAlarm t x u (nxe t x s) else (false, s, u)) else if wd t x s 3 = true then rDown t x u (nxe t x s) else (false, s, u)
theorem wd_k {t : Nat} {x : Nat → Nat} {s w : Nat} (h : ¬ kR t x s = 1) : ¬ wd t x s w = true := fun z => h (kR_1.mpr (wd_i.mp z).1)
theorem rItem_k {t : Nat} {x u : Nat → Nat} {f : Bool} {s : Nat} (h : ¬ kR t x s = 1) : rItem t x u f s = (false, s, u) := by
  unfold rItem
  rw [if_neg (wd_k h)]
  split
  · rfl
  · rw [if_neg (wd_k h), if_neg (wd_k h), if_neg (wd_k h)]
set_option maxHeartbeats 4000000 in
set_option maxRecDepth 100000 in
theorem ex_isIt1 {J : Nat → Nat → Int32} {L : Nat → Nat → Int64} {q : Nat → Nat → Nat} {t : Nat} {x : Nat → Nat} (X0 : mxt J t x) {s : Nat} (hs : s ≤ t) (S0 : mS J L t x s) {u : Nat → Nat} (V0 : MR J u) (h100 : u 100 = 0) (U : WU u) (h14 : J 146 14 = nI 0) : hz_Ex mX11_isItem TT NN (J, L, PP q) [.ref 146] (hz_PL (PP q) (some (.int (bI (rItem t x u true s).1))) (rP t x J L (rItem t x u true s))) := by
  have hal := wu_al U
  have hkr := kR_le t x s
  refine hz_Ex.intro (ls := [some (.ref 146), none]) (by decide +kernel) rfl (Nat.le_of_ble_eq_true rfl) (fun X C Z => ?_)
  refine hz_aload_n (pc := 0) C dX11_isItem_0 rfl ?_
  refine hz_getI (pc := 1) C (v := nI 0) ffX11_105 dX11_isItem_1 hT146 hA146 rfl h14 ?_
  refine hz_if_ne (pc := 4) C (tgt := 11) dX11_isItem_4 rfl (fun cq => absurd (by decide +kernel) cq) (fun _ => ?_)
  refine hz_iconst (pc := 7) C (v := nI 1) dX11_isItem_7 (by decide +kernel) ?_
  refine hz_goto (pc := 8) C (tgt := 12) dX11_isItem_8 rfl ?_
  refine hz_istore_n (pc := 12) C (ls' := [some (.ref 146), some (.int (nI 1))]) dX11_isItem_12 (Nat.le_of_ble_eq_true rfl) rfl ?_
  by_cases hk1 : kR t x s = 1
  · refine hz_aload_n (pc := 13) C dX11_isItem_13 rfl ?_
    refine hz_getI (pc := 14) C (v := nI (kR t x s)) ffX11_87 dX11_isItem_14 hT146 hA146 rfl S0.2.2.1 ?_
    refine hz_iconst (pc := 17) C (v := nI 1) dX11_isItem_17 (by decide +kernel) ?_
    refine hz_ic_ne (pc := 18) C (tgt := 41) dX11_isItem_18 rfl (fun cq => absurd ((nI_eq (by omega) (by omega)).mpr (by omega)) cq) (fun _ => ?_)
    by_cases hk2 : wd t x s 0 = true
    · refine hz_iload_n (pc := 21) C dX11_isItem_21 rfl ?_
      refine hz_aload_n (pc := 22) C dX11_isItem_22 rfl ?_
      refine hz_getL (pc := 23) C (v := wv x (bgn t x s) (nxe t x s - bgn t x s)) ffX11_81 dX11_isItem_23 hT146 hA146 rfl (S0.2.2.2.2 hk1) ?_
      refine hz_ldc2 (pc := 26) C (v := lN 448546567013) dX11_isItem_26 (hz_mp 1017 (by decide +kernel)) ?_
      refine hz_lcmp (pc := 29) C dX11_isItem_29 ?_
      refine hz_if_ne (pc := 30) C (tgt := 37) dX11_isItem_30 rfl (fun cq => absurd (lc_0.mpr ((wq0 hs (kR_1.mp hk1)).mpr hk2)) cq) (fun _ => ?_)
      refine hz_iconst (pc := 33) C (v := nI 1) dX11_isItem_33 (by decide +kernel) ?_
      refine hz_goto (pc := 34) C (tgt := 38) dX11_isItem_34 rfl ?_
      refine hz_ic_eq (pc := 38) C (tgt := 43) dX11_isItem_38 rfl (fun _ => ?_) (fun cq => absurd (by decide +kernel) cq)
      refine hz_iload_n (pc := 43) C dX11_isItem_43 rfl ?_
      refine hz_if_eq (pc := 44) C (tgt := 52) dX11_isItem_44 rfl (fun cq => absurd cq (by decide +kernel)) (fun _ => ?_)
      by_cases hk3 : (rCold t x u (nxe t x s)).1 = true
      · refine hz_aload_n (pc := 47) C dX11_isItem_47 rfl ?_
        refine hz_callVls (pc := 48) C (as := []) (st := []) (el_bT hk3 (ex_rCold X0 hs S0 V0 h100 U)) fyX11_isCold fvX11_110 rfl dX11_isItem_48 hT146 rfl rfl hA146 rfl rfl (Nat.le_of_ble_eq_true rfl) (by decide) (hz_cap0 _) (fun K1 W1 h1 => ?_)
        exact hz_zretx C Z rfl (by decide +kernel) dX11_isItem_51 (by
      have hR : rItem t x u true s = rCold t x u (nxe t x s) := by unfold rItem; rw [if_pos hk2, if_pos rfl]
      rw [hR]
      exact ⟨K1, W1, congrArg (fun b => some (Value.int (bI b))) hk3.symm, rfl, h1⟩)
      · refine hz_aload_n (pc := 47) C dX11_isItem_47 rfl ?_
        refine hz_callVls (pc := 48) C (as := []) (st := []) (el_bF hk3 (ex_rCold X0 hs S0 V0 h100 U)) fyX11_isCold fvX11_110 rfl dX11_isItem_48 hT146 rfl rfl hA146 rfl rfl (Nat.le_of_ble_eq_true rfl) (by decide) (hz_cap0 _) (fun K1 W1 h1 => ?_)
        exact hz_zretx C Z rfl (by decide +kernel) dX11_isItem_51 (by
      have hR : rItem t x u true s = rCold t x u (nxe t x s) := by unfold rItem; rw [if_pos hk2, if_pos rfl]
      rw [hR]
      exact ⟨K1, W1, congrArg (fun b => some (Value.int (bI b))) (Bool.eq_false_iff.mpr hk3).symm, rfl, h1⟩)
    · refine hz_iload_n (pc := 21) C dX11_isItem_21 rfl ?_
      refine hz_aload_n (pc := 22) C dX11_isItem_22 rfl ?_
      refine hz_getL (pc := 23) C (v := wv x (bgn t x s) (nxe t x s - bgn t x s)) ffX11_81 dX11_isItem_23 hT146 hA146 rfl (S0.2.2.2.2 hk1) ?_
      refine hz_ldc2 (pc := 26) C (v := lN 448546567013) dX11_isItem_26 (hz_mp 1017 (by decide +kernel)) ?_
      refine hz_lcmp (pc := 29) C dX11_isItem_29 ?_
      refine hz_if_ne (pc := 30) C (tgt := 37) dX11_isItem_30 rfl (fun _ => ?_) (fun cq => absurd ((wq0 hs (kR_1.mp hk1)).mp (lc_0.mp cq)) hk2)
      refine hz_iconst (pc := 37) C (v := nI 0) dX11_isItem_37 (by decide +kernel) ?_
      refine hz_ic_eq (pc := 38) C (tgt := 43) dX11_isItem_38 rfl (fun cq => absurd cq (by decide +kernel)) (fun _ => ?_)
      refine hz_iconst (pc := 41) C (v := nI 0) dX11_isItem_41 (by decide +kernel) ?_
      exact hz_zretx C Z rfl (by decide +kernel) dX11_isItem_42 (by
      have hR : rItem t x u true s = (false, s, u) := by unfold rItem; rw [if_neg hk2, if_pos rfl]
      rw [hR]
      exact ⟨_, _, rfl, rfl, mF.rf J, wC.rf L, S0, fun z => absurd (show false = true from z) (by decide)⟩)
  · refine hz_aload_n (pc := 13) C dX11_isItem_13 rfl ?_
    refine hz_getI (pc := 14) C (v := nI (kR t x s)) ffX11_87 dX11_isItem_14 hT146 hA146 rfl S0.2.2.1 ?_
    refine hz_iconst (pc := 17) C (v := nI 1) dX11_isItem_17 (by decide +kernel) ?_
    refine hz_ic_ne (pc := 18) C (tgt := 41) dX11_isItem_18 rfl (fun _ => ?_) (fun cq => absurd ((nI_eq (by omega) (by omega)).mp cq) (by omega))
    refine hz_iconst (pc := 41) C (v := nI 0) dX11_isItem_41 (by decide +kernel) ?_
    exact hz_zretx C Z rfl (by decide +kernel) dX11_isItem_42 (by
      rw [rItem_k hk1]
      exact ⟨_, _, rfl, rfl, mF.rf J, wC.rf L, S0, fun z => absurd (show false = true from z) (by decide)⟩)
set_option maxHeartbeats 4000000 in
set_option maxRecDepth 100000 in
theorem ex_isIt0 {J : Nat → Nat → Int32} {L : Nat → Nat → Int64} {q : Nat → Nat → Nat} {t : Nat} {x : Nat → Nat} (X0 : mxt J t x) {s : Nat} (hs : s ≤ t) (S0 : mS J L t x s) {u : Nat → Nat} (V0 : MR J u) (h100 : u 100 = 0) (U : WU u) {i : Nat} (hi : 0 < i) (hi2 : i < 200) (h14 : J 146 14 = nI i) : hz_Ex mX11_isItem TT NN (J, L, PP q) [.ref 146] (hz_PL (PP q) (some (.int (bI (rItem t x u false s).1))) (rP t x J L (rItem t x u false s))) := by
  have hal := wu_al U
  have hkr := kR_le t x s
  refine hz_Ex.intro (ls := [some (.ref 146), none]) (by decide +kernel) rfl (Nat.le_of_ble_eq_true rfl) (fun X C Z => ?_)
  refine hz_aload_n (pc := 0) C dX11_isItem_0 rfl ?_
  refine hz_getI (pc := 1) C (v := nI i) ffX11_105 dX11_isItem_1 hT146 hA146 rfl h14 ?_
  refine hz_if_ne (pc := 4) C (tgt := 11) dX11_isItem_4 rfl (fun _ => ?_) (fun cq => absurd cq (nI_ne0 (by omega) (by omega)))
  refine hz_iconst (pc := 11) C (v := nI 0) dX11_isItem_11 (by decide +kernel) ?_
  refine hz_istore_n (pc := 12) C (ls' := [some (.ref 146), some (.int (nI 0))]) dX11_isItem_12 (Nat.le_of_ble_eq_true rfl) rfl ?_
  by_cases hk1 : kR t x s = 1
  · refine hz_aload_n (pc := 13) C dX11_isItem_13 rfl ?_
    refine hz_getI (pc := 14) C (v := nI (kR t x s)) ffX11_87 dX11_isItem_14 hT146 hA146 rfl S0.2.2.1 ?_
    refine hz_iconst (pc := 17) C (v := nI 1) dX11_isItem_17 (by decide +kernel) ?_
    refine hz_ic_ne (pc := 18) C (tgt := 41) dX11_isItem_18 rfl (fun cq => absurd ((nI_eq (by omega) (by omega)).mpr (by omega)) cq) (fun _ => ?_)
    by_cases hk2 : wd t x s 0 = true
    · refine hz_iload_n (pc := 21) C dX11_isItem_21 rfl ?_
      refine hz_aload_n (pc := 22) C dX11_isItem_22 rfl ?_
      refine hz_getL (pc := 23) C (v := wv x (bgn t x s) (nxe t x s - bgn t x s)) ffX11_81 dX11_isItem_23 hT146 hA146 rfl (S0.2.2.2.2 hk1) ?_
      refine hz_ldc2 (pc := 26) C (v := lN 448546567013) dX11_isItem_26 (hz_mp 1017 (by decide +kernel)) ?_
      refine hz_lcmp (pc := 29) C dX11_isItem_29 ?_
      refine hz_if_ne (pc := 30) C (tgt := 37) dX11_isItem_30 rfl (fun cq => absurd (lc_0.mpr ((wq0 hs (kR_1.mp hk1)).mpr hk2)) cq) (fun _ => ?_)
      refine hz_iconst (pc := 33) C (v := nI 1) dX11_isItem_33 (by decide +kernel) ?_
      refine hz_goto (pc := 34) C (tgt := 38) dX11_isItem_34 rfl ?_
      refine hz_ic_eq (pc := 38) C (tgt := 43) dX11_isItem_38 rfl (fun cq => absurd cq (by decide +kernel)) (fun _ => ?_)
      refine hz_iconst (pc := 41) C (v := nI 0) dX11_isItem_41 (by decide +kernel) ?_
      exact hz_zretx C Z rfl (by decide +kernel) dX11_isItem_42 (by
      have hR : rItem t x u false s = (false, s, u) := by unfold rItem; rw [if_pos hk2, if_neg (by decide)]
      rw [hR]
      exact ⟨_, _, rfl, rfl, mF.rf J, wC.rf L, S0, fun z => absurd (show false = true from z) (by decide)⟩)
    · refine hz_iload_n (pc := 21) C dX11_isItem_21 rfl ?_
      refine hz_aload_n (pc := 22) C dX11_isItem_22 rfl ?_
      refine hz_getL (pc := 23) C (v := wv x (bgn t x s) (nxe t x s - bgn t x s)) ffX11_81 dX11_isItem_23 hT146 hA146 rfl (S0.2.2.2.2 hk1) ?_
      refine hz_ldc2 (pc := 26) C (v := lN 448546567013) dX11_isItem_26 (hz_mp 1017 (by decide +kernel)) ?_
      refine hz_lcmp (pc := 29) C dX11_isItem_29 ?_
      refine hz_if_ne (pc := 30) C (tgt := 37) dX11_isItem_30 rfl (fun _ => ?_) (fun cq => absurd ((wq0 hs (kR_1.mp hk1)).mp (lc_0.mp cq)) hk2)
      refine hz_iconst (pc := 37) C (v := nI 0) dX11_isItem_37 (by decide +kernel) ?_
      refine hz_ic_eq (pc := 38) C (tgt := 43) dX11_isItem_38 rfl (fun _ => ?_) (fun cq => absurd (by decide +kernel) cq)
      refine hz_iload_n (pc := 43) C dX11_isItem_43 rfl ?_
      refine hz_if_eq (pc := 44) C (tgt := 52) dX11_isItem_44 rfl (fun _ => ?_) (fun cq => absurd (by decide +kernel) cq)
      by_cases hk3 : wd t x s 1 = true
      · refine hz_aload_n (pc := 52) C dX11_isItem_52 rfl ?_
        refine hz_getL (pc := 53) C (v := wv x (bgn t x s) (nxe t x s - bgn t x s)) ffX11_81 dX11_isItem_53 hT146 hA146 rfl (S0.2.2.2.2 hk1) ?_
        refine hz_ldc2 (pc := 56) C (v := lN 1685024626) dX11_isItem_56 (hz_mp 1026 (by decide +kernel)) ?_
        refine hz_lcmp (pc := 59) C dX11_isItem_59 ?_
        refine hz_if_ne (pc := 60) C (tgt := 68) dX11_isItem_60 rfl (fun cq => absurd (lc_0.mpr ((wq1 hs (kR_1.mp hk1)).mpr hk3)) cq) (fun _ => ?_)
        by_cases hk4 : (rDoor t x u (nxe t x s)).1 = true
        · refine hz_aload_n (pc := 63) C dX11_isItem_63 rfl ?_
          refine hz_callVls (pc := 64) C (as := []) (st := []) (el_bT hk4 (ex_rDoor X0 hs S0 V0 h100 U)) fyX11_isDoor fvX11_116 rfl dX11_isItem_64 hT146 rfl rfl hA146 rfl rfl (Nat.le_of_ble_eq_true rfl) (by decide) (hz_cap0 _) (fun K1 W1 h1 => ?_)
          exact hz_zretx C Z rfl (by decide +kernel) dX11_isItem_67 (by
      have hR : rItem t x u false s = rDoor t x u (nxe t x s) := by unfold rItem; rw [if_neg hk2, if_neg (by decide), if_pos hk3]
      rw [hR]
      exact ⟨K1, W1, congrArg (fun b => some (Value.int (bI b))) hk4.symm, rfl, h1⟩)
        · refine hz_aload_n (pc := 63) C dX11_isItem_63 rfl ?_
          refine hz_callVls (pc := 64) C (as := []) (st := []) (el_bF hk4 (ex_rDoor X0 hs S0 V0 h100 U)) fyX11_isDoor fvX11_116 rfl dX11_isItem_64 hT146 rfl rfl hA146 rfl rfl (Nat.le_of_ble_eq_true rfl) (by decide) (hz_cap0 _) (fun K1 W1 h1 => ?_)
          exact hz_zretx C Z rfl (by decide +kernel) dX11_isItem_67 (by
      have hR : rItem t x u false s = rDoor t x u (nxe t x s) := by unfold rItem; rw [if_neg hk2, if_neg (by decide), if_pos hk3]
      rw [hR]
      exact ⟨K1, W1, congrArg (fun b => some (Value.int (bI b))) (Bool.eq_false_iff.mpr hk4).symm, rfl, h1⟩)
      · refine hz_aload_n (pc := 52) C dX11_isItem_52 rfl ?_
        refine hz_getL (pc := 53) C (v := wv x (bgn t x s) (nxe t x s - bgn t x s)) ffX11_81 dX11_isItem_53 hT146 hA146 rfl (S0.2.2.2.2 hk1) ?_
        refine hz_ldc2 (pc := 56) C (v := lN 1685024626) dX11_isItem_56 (hz_mp 1026 (by decide +kernel)) ?_
        refine hz_lcmp (pc := 59) C dX11_isItem_59 ?_
        refine hz_if_ne (pc := 60) C (tgt := 68) dX11_isItem_60 rfl (fun _ => ?_) (fun cq => absurd ((wq1 hs (kR_1.mp hk1)).mp (lc_0.mp cq)) hk3)
        by_cases hk5 : wd t x s 2 = true
        · refine hz_aload_n (pc := 68) C dX11_isItem_68 rfl ?_
          refine hz_getL (pc := 69) C (v := wv x (bgn t x s) (nxe t x s - bgn t x s)) ffX11_81 dX11_isItem_69 hT146 hA146 rfl (S0.2.2.2.2 hk1) ?_
          refine hz_ldc2 (pc := 72) C (v := lN 418430153325) dX11_isItem_72 (hz_mp 1031 (by decide +kernel)) ?_
          refine hz_lcmp (pc := 75) C dX11_isItem_75 ?_
          refine hz_if_ne (pc := 76) C (tgt := 86) dX11_isItem_76 rfl (fun cq => absurd (lc_0.mpr ((wq2 hs (kR_1.mp hk1)).mpr hk5)) cq) (fun _ => ?_)
          by_cases hk6 : u 64 < 6
          · by_cases hk7 : (rAlarm t x u (nxe t x s)).1 = true
            · refine hz_aload_n (pc := 79) C dX11_isItem_79 rfl ?_
              refine hz_callVls (pc := 80) C (as := []) (st := []) (el_bT hk7 (ex_rAlarm X0 hs S0 V0 h100 U hk6)) fyX11_isAlarmItem fvX11_121 rfl dX11_isItem_80 hT146 rfl rfl hA146 rfl rfl (Nat.le_of_ble_eq_true rfl) (by decide) (hz_cap0 _) (fun K1 W1 h1 => ?_)
              refine hz_goto (pc := 83) C (tgt := 109) dX11_isItem_83 rfl ?_
              exact hz_zretx C Z rfl (by decide +kernel) dX11_isItem_109 (by
      have hR : rItem t x u false s = rAlarm t x u (nxe t x s) := by unfold rItem; rw [if_neg hk2, if_neg (by decide), if_neg hk3, if_pos hk5, if_pos hk6]
      rw [hR]
      exact ⟨K1, W1, congrArg (fun b => some (Value.int (bI b))) hk7.symm, rfl, h1⟩)
            · refine hz_aload_n (pc := 79) C dX11_isItem_79 rfl ?_
              refine hz_callVls (pc := 80) C (as := []) (st := []) (el_bF hk7 (ex_rAlarm X0 hs S0 V0 h100 U hk6)) fyX11_isAlarmItem fvX11_121 rfl dX11_isItem_80 hT146 rfl rfl hA146 rfl rfl (Nat.le_of_ble_eq_true rfl) (by decide) (hz_cap0 _) (fun K1 W1 h1 => ?_)
              refine hz_goto (pc := 83) C (tgt := 109) dX11_isItem_83 rfl ?_
              exact hz_zretx C Z rfl (by decide +kernel) dX11_isItem_109 (by
      have hR : rItem t x u false s = rAlarm t x u (nxe t x s) := by unfold rItem; rw [if_neg hk2, if_neg (by decide), if_neg hk3, if_pos hk5, if_pos hk6]
      rw [hR]
      exact ⟨K1, W1, congrArg (fun b => some (Value.int (bI b))) (Bool.eq_false_iff.mpr hk7).symm, rfl, h1⟩)
          · refine hz_aload_n (pc := 79) C dX11_isItem_79 rfl ?_
            refine hz_callVs (pc := 80) C (as := []) (st := []) (ev_rAlF V0 U hk6) (hz_new0 _ _) fyX11_isAlarmItem fvX11_121 rfl dX11_isItem_80 hT146 rfl rfl hA146 rfl rfl (Nat.le_of_ble_eq_true rfl) (by decide) (hz_cap0 _) ?_
            refine hz_goto (pc := 83) C (tgt := 109) dX11_isItem_83 rfl ?_
            exact hz_zretx C Z rfl (by decide +kernel) dX11_isItem_109 (by
      have hR : rItem t x u false s = (false, s, u) := by unfold rItem; rw [if_neg hk2, if_neg (by decide), if_neg hk3, if_pos hk5, if_neg hk6]
      rw [hR]
      exact ⟨_, _, rfl, rfl, mF.rf J, wC.rf L, S0, fun z => absurd (show false = true from z) (by decide)⟩)
        · refine hz_aload_n (pc := 68) C dX11_isItem_68 rfl ?_
          refine hz_getL (pc := 69) C (v := wv x (bgn t x s) (nxe t x s - bgn t x s)) ffX11_81 dX11_isItem_69 hT146 hA146 rfl (S0.2.2.2.2 hk1) ?_
          refine hz_ldc2 (pc := 72) C (v := lN 418430153325) dX11_isItem_72 (hz_mp 1031 (by decide +kernel)) ?_
          refine hz_lcmp (pc := 75) C dX11_isItem_75 ?_
          refine hz_if_ne (pc := 76) C (tgt := 86) dX11_isItem_76 rfl (fun _ => ?_) (fun cq => absurd ((wq2 hs (kR_1.mp hk1)).mp (lc_0.mp cq)) hk5)
          by_cases hk8 : wd t x s 3 = true
          · refine hz_aload_n (pc := 86) C dX11_isItem_86 rfl ?_
            refine hz_getL (pc := 87) C (v := wv x (bgn t x s) (nxe t x s - bgn t x s)) ffX11_81 dX11_isItem_87 hT146 hA146 rfl (S0.2.2.2.2 hk1) ?_
            refine hz_ldc2 (pc := 90) C (v := lN 1685026670) dX11_isItem_90 (hz_mp 1036 (by decide +kernel)) ?_
            refine hz_lcmp (pc := 93) C dX11_isItem_93 ?_
            refine hz_if_ne (pc := 94) C (tgt := 108) dX11_isItem_94 rfl (fun cq => absurd (lc_0.mpr ((wq3 hs (kR_1.mp hk1)).mpr hk8)) cq) (fun _ => ?_)
            by_cases hk9 : (rDown t x u (nxe t x s)).1 = true
            · refine hz_aload_n (pc := 97) C dX11_isItem_97 rfl ?_
              refine hz_callVls (pc := 98) C (as := []) (st := []) (el_bT hk9 (ex_rDown X0 hs S0 V0 h100 U)) fyX11_isDown fvX11_126 rfl dX11_isItem_98 hT146 rfl rfl hA146 rfl rfl (Nat.le_of_ble_eq_true rfl) (by decide) (hz_cap0 _) (fun K1 W1 h1 => ?_)
              refine hz_if_eq (pc := 101) C (tgt := 108) dX11_isItem_101 rfl (fun cq => absurd cq (by decide +kernel)) (fun _ => ?_)
              refine hz_iconst (pc := 104) C (v := nI 1) dX11_isItem_104 (by decide +kernel) ?_
              refine hz_goto (pc := 105) C (tgt := 109) dX11_isItem_105 rfl ?_
              exact hz_zretx C Z rfl (by decide +kernel) dX11_isItem_109 (by
      have hR : rItem t x u false s = rDown t x u (nxe t x s) := by unfold rItem; rw [if_neg hk2, if_neg (by decide), if_neg hk3, if_neg hk5, if_pos hk8]
      rw [hR]
      exact ⟨K1, W1, congrArg (fun b => some (Value.int (bI b))) hk9.symm, rfl, h1⟩)
            · refine hz_aload_n (pc := 97) C dX11_isItem_97 rfl ?_
              refine hz_callVls (pc := 98) C (as := []) (st := []) (el_bF hk9 (ex_rDown X0 hs S0 V0 h100 U)) fyX11_isDown fvX11_126 rfl dX11_isItem_98 hT146 rfl rfl hA146 rfl rfl (Nat.le_of_ble_eq_true rfl) (by decide) (hz_cap0 _) (fun K1 W1 h1 => ?_)
              refine hz_if_eq (pc := 101) C (tgt := 108) dX11_isItem_101 rfl (fun _ => ?_) (fun cq => absurd (by decide +kernel) cq)
              refine hz_iconst (pc := 108) C (v := nI 0) dX11_isItem_108 (by decide +kernel) ?_
              exact hz_zretx C Z rfl (by decide +kernel) dX11_isItem_109 (by
      have hR : rItem t x u false s = rDown t x u (nxe t x s) := by unfold rItem; rw [if_neg hk2, if_neg (by decide), if_neg hk3, if_neg hk5, if_pos hk8]
      rw [hR]
      exact ⟨K1, W1, congrArg (fun b => some (Value.int (bI b))) (Bool.eq_false_iff.mpr hk9).symm, rfl, h1⟩)
          · refine hz_aload_n (pc := 86) C dX11_isItem_86 rfl ?_
            refine hz_getL (pc := 87) C (v := wv x (bgn t x s) (nxe t x s - bgn t x s)) ffX11_81 dX11_isItem_87 hT146 hA146 rfl (S0.2.2.2.2 hk1) ?_
            refine hz_ldc2 (pc := 90) C (v := lN 1685026670) dX11_isItem_90 (hz_mp 1036 (by decide +kernel)) ?_
            refine hz_lcmp (pc := 93) C dX11_isItem_93 ?_
            refine hz_if_ne (pc := 94) C (tgt := 108) dX11_isItem_94 rfl (fun _ => ?_) (fun cq => absurd ((wq3 hs (kR_1.mp hk1)).mp (lc_0.mp cq)) hk8)
            refine hz_iconst (pc := 108) C (v := nI 0) dX11_isItem_108 (by decide +kernel) ?_
            exact hz_zretx C Z rfl (by decide +kernel) dX11_isItem_109 (by
      have hR : rItem t x u false s = (false, s, u) := by unfold rItem; rw [if_neg hk2, if_neg (by decide), if_neg hk3, if_neg hk5, if_neg hk8]
      rw [hR]
      exact ⟨_, _, rfl, rfl, mF.rf J, wC.rf L, S0, fun z => absurd (show false = true from z) (by decide)⟩)
  · refine hz_aload_n (pc := 13) C dX11_isItem_13 rfl ?_
    refine hz_getI (pc := 14) C (v := nI (kR t x s)) ffX11_87 dX11_isItem_14 hT146 hA146 rfl S0.2.2.1 ?_
    refine hz_iconst (pc := 17) C (v := nI 1) dX11_isItem_17 (by decide +kernel) ?_
    refine hz_ic_ne (pc := 18) C (tgt := 41) dX11_isItem_18 rfl (fun _ => ?_) (fun cq => absurd ((nI_eq (by omega) (by omega)).mp cq) (by omega))
    refine hz_iconst (pc := 41) C (v := nI 0) dX11_isItem_41 (by decide +kernel) ?_
    exact hz_zretx C Z rfl (by decide +kernel) dX11_isItem_42 (by
      rw [rItem_k hk1]
      exact ⟨_, _, rfl, rfl, mF.rf J, wC.rf L, S0, fun z => absurd (show false = true from z) (by decide)⟩)

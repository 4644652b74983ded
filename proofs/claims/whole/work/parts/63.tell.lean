theorem ex_bT {y : hz_Y} {T : hz_T} {n : Nat} {M : hz_M} {as : List Value} {L : Nat → Nat → Int64} {P : Nat → Nat → Nat} {b : Bool} {F : (Nat → Nat → Int32) → Prop} (h : b = true) (E : hz_Ex y T n M as (hz_PI L P (some (.int (bI b))) F)) : hz_Ex y T n M as (hz_PI L P (some (.int (nI 1))) F) := by subst h; exact E
theorem ex_bF {y : hz_Y} {T : hz_T} {n : Nat} {M : hz_M} {as : List Value} {L : Nat → Nat → Int64} {P : Nat → Nat → Nat} {b : Bool} {F : (Nat → Nat → Int32) → Prop} (h : ¬ b = true) (E : hz_Ex y T n M as (hz_PI L P (some (.int (bI b))) F)) : hz_Ex y T n M as (hz_PI L P (some (.int (nI 0))) F) := by
  cases b with
  | false => exact E
  | true => exact absurd rfl h
def pItem (t : Nat) (x u : Nat → Nat) (f : Bool) (s : Nat) : pR := if wd t x s 0 = true then (if f = true then pHouse t x u (nxe t x s) else (false, s, u)) else if f = true then (false, s, u) else if wd t x s 1 = true then pDoor t x u (nxe t x s) else if wd t x s 2 = true then (if u 64 < 6 then pAlarm t x u (nxe t x s) else (false, s, u)) else if wd t x s 3 = true then pDown t x u (nxe t x s) else (false, s, u)
set_option maxHeartbeats 4000000 in
set_option maxRecDepth 100000 in
theorem ex_item1 {J : Nat → Nat → Int32} {L : Nat → Nat → Int64} {q : Nat → Nat → Nat} {t : Nat} {x : Nat → Nat} (X0 : tx J t x) {s : Nat} (hs : s ≤ t) (S0 : tS J t x s) {u : Nat → Nat} (V0 : DV q J u) (U : WU u) : hz_Ex mX8_item TT NN (J, L, PP q) [.ref 2, .ref 45, .int (nI 1)] (hz_PI L (PP q) (some (.int (bI (pItem t x u true s).1))) (iP q t x J (pItem t x u true s))) := by
  have hal := wu_al U
  refine hz_Ex.intro (ls := [some (.ref 2), some (.ref 45), some (.int (nI 1))]) (by decide +kernel) rfl (Nat.le_of_ble_eq_true rfl) (fun X C Z => ?_)
  refine hz_aload_n (pc := 0) C dX8_item_0 rfl ?_
  refine hz_ldcS (pc := 1) C (a := 1001 + 0) (t := "house") (fun _ _ _ h => h.2.2.2.2.2.1) dX8_item_1 ?_
  refine hz_callVs (pc := 3) C (as := [.ref (1001 + 0)]) (st := []) (ev_says X0 hs S0 (w := 0) (by decide)) (hz_new0 _ _) fyX8_says fvX8_37 rfl dX8_item_3 hT2 rfl rfl hA2 rfl rfl (Nat.le_of_ble_eq_true rfl) (by decide) (hz_cap0 _) ?_
  refine hz_ifb_eq (pc := 6) C (tgt := 27) dX8_item_6 rfl (fun zzc1 => ?_) (fun zzc1 => ?_)
  · refine hz_iload_n (pc := 27) C dX8_item_27 rfl ?_
    refine hz_if_eq (pc := 28) C (tgt := 33) dX8_item_28 rfl (fun cq => absurd cq (by decide +kernel)) (fun _ => ?_)
    refine hz_iconst (pc := 31) C (v := nI 0) dX8_item_31 (by decide +kernel) ?_
    exact hz_zretx C Z rfl (by decide +kernel) dX8_item_32 (by
      have hR : pItem t x u true s = (false, s, u) := by unfold pItem; rw [if_neg zzc1, if_pos rfl]
      rw [hR]
      exact ⟨_, rfl, rfl, tF.rf J, S0, fun z => absurd (show false = true from z) (by decide)⟩)
  · refine hz_iload_n (pc := 9) C dX8_item_9 rfl ?_
    refine hz_if_eq (pc := 10) C (tgt := 25) dX8_item_10 rfl (fun cq => absurd cq (by decide +kernel)) (fun _ => ?_)
    by_cases hk1 : (pHouse t x u (nxe t x s)).1 = true
    · refine hz_aload_n (pc := 13) C dX8_item_13 rfl ?_
      refine hz_aload_n (pc := 14) C dX8_item_14 rfl ?_
      refine hz_callVxs (pc := 15) C (as := [.ref 45]) (st := []) (ex_bT hk1 (ex_houseI X0 hs S0 V0 U)) fyX8_houseItem fvX8_41 rfl dX8_item_15 hT2 rfl rfl hA2 rfl rfl (Nat.le_of_ble_eq_true rfl) (by decide) (hz_cap0 _) (fun K1 h1 => ?_)
      refine hz_if_eq (pc := 18) C (tgt := 25) dX8_item_18 rfl (fun cq => absurd cq (by decide +kernel)) (fun _ => ?_)
      refine hz_iconst (pc := 21) C (v := nI 1) dX8_item_21 (by decide +kernel) ?_
      refine hz_goto (pc := 22) C (tgt := 26) dX8_item_22 rfl ?_
      exact hz_zretx C Z rfl (by decide +kernel) dX8_item_26 (by
      have hR : pItem t x u true s = pHouse t x u (nxe t x s) := by unfold pItem; rw [if_pos zzc1, if_pos rfl]
      rw [hR]
      exact ⟨K1, congrArg (fun b => some (Value.int (bI b))) hk1.symm, rfl, h1⟩)
    · refine hz_aload_n (pc := 13) C dX8_item_13 rfl ?_
      refine hz_aload_n (pc := 14) C dX8_item_14 rfl ?_
      refine hz_callVxs (pc := 15) C (as := [.ref 45]) (st := []) (ex_bF hk1 (ex_houseI X0 hs S0 V0 U)) fyX8_houseItem fvX8_41 rfl dX8_item_15 hT2 rfl rfl hA2 rfl rfl (Nat.le_of_ble_eq_true rfl) (by decide) (hz_cap0 _) (fun K1 h1 => ?_)
      refine hz_if_eq (pc := 18) C (tgt := 25) dX8_item_18 rfl (fun _ => ?_) (fun cq => absurd (by decide +kernel) cq)
      refine hz_iconst (pc := 25) C (v := nI 0) dX8_item_25 (by decide +kernel) ?_
      exact hz_zretx C Z rfl (by decide +kernel) dX8_item_26 (by
      have hR : pItem t x u true s = pHouse t x u (nxe t x s) := by unfold pItem; rw [if_pos zzc1, if_pos rfl]
      rw [hR]
      exact ⟨K1, congrArg (fun b => some (Value.int (bI b))) (Bool.eq_false_iff.mpr hk1).symm, rfl, h1⟩)
set_option maxHeartbeats 4000000 in
set_option maxRecDepth 100000 in
theorem ex_item0 {J : Nat → Nat → Int32} {L : Nat → Nat → Int64} {q : Nat → Nat → Nat} {t : Nat} {x : Nat → Nat} (X0 : tx J t x) {s : Nat} (hs : s ≤ t) (S0 : tS J t x s) {u : Nat → Nat} (V0 : DV q J u) (U : WU u) : hz_Ex mX8_item TT NN (J, L, PP q) [.ref 2, .ref 45, .int (nI 0)] (hz_PI L (PP q) (some (.int (bI (pItem t x u false s).1))) (iP q t x J (pItem t x u false s))) := by
  have hal := wu_al U
  refine hz_Ex.intro (ls := [some (.ref 2), some (.ref 45), some (.int (nI 0))]) (by decide +kernel) rfl (Nat.le_of_ble_eq_true rfl) (fun X C Z => ?_)
  refine hz_aload_n (pc := 0) C dX8_item_0 rfl ?_
  refine hz_ldcS (pc := 1) C (a := 1001 + 0) (t := "house") (fun _ _ _ h => h.2.2.2.2.2.1) dX8_item_1 ?_
  refine hz_callVs (pc := 3) C (as := [.ref (1001 + 0)]) (st := []) (ev_says X0 hs S0 (w := 0) (by decide)) (hz_new0 _ _) fyX8_says fvX8_37 rfl dX8_item_3 hT2 rfl rfl hA2 rfl rfl (Nat.le_of_ble_eq_true rfl) (by decide) (hz_cap0 _) ?_
  refine hz_ifb_eq (pc := 6) C (tgt := 27) dX8_item_6 rfl (fun zzc1 => ?_) (fun zzc1 => ?_)
  · refine hz_iload_n (pc := 27) C dX8_item_27 rfl ?_
    refine hz_if_eq (pc := 28) C (tgt := 33) dX8_item_28 rfl (fun _ => ?_) (fun cq => absurd (by decide +kernel) cq)
    refine hz_aload_n (pc := 33) C dX8_item_33 rfl ?_
    refine hz_ldcS (pc := 34) C (a := 1001 + 1) (t := "door") (fun _ _ _ h => h.2.2.2.2.2.2.1) dX8_item_34 ?_
    refine hz_callVs (pc := 36) C (as := [.ref (1001 + 1)]) (st := []) (ev_says X0 hs S0 (w := 1) (by decide)) (hz_new0 _ _) fyX8_says fvX8_37 rfl dX8_item_36 hT2 rfl rfl hA2 rfl rfl (Nat.le_of_ble_eq_true rfl) (by decide) (hz_cap0 _) ?_
    refine hz_ifb_eq (pc := 39) C (tgt := 48) dX8_item_39 rfl (fun zzc2 => ?_) (fun zzc2 => ?_)
    · refine hz_aload_n (pc := 48) C dX8_item_48 rfl ?_
      refine hz_ldcS (pc := 49) C (a := 1001 + 2) (t := "alarm") (fun _ _ _ h => h.2.2.2.2.2.2.2.1) dX8_item_49 ?_
      refine hz_callVs (pc := 51) C (as := [.ref (1001 + 2)]) (st := []) (ev_says X0 hs S0 (w := 2) (by decide)) (hz_new0 _ _) fyX8_says fvX8_37 rfl dX8_item_51 hT2 rfl rfl hA2 rfl rfl (Nat.le_of_ble_eq_true rfl) (by decide) (hz_cap0 _) ?_
      refine hz_ifb_eq (pc := 54) C (tgt := 80) dX8_item_54 rfl (fun zzc3 => ?_) (fun zzc3 => ?_)
      · refine hz_aload_n (pc := 80) C dX8_item_80 rfl ?_
        refine hz_ldcS (pc := 81) C (a := 1001 + 3) (t := "down") (fun _ _ _ h => h.2.2.2.2.2.2.2.2) dX8_item_81 ?_
        refine hz_callVs (pc := 83) C (as := [.ref (1001 + 3)]) (st := []) (ev_says X0 hs S0 (w := 3) (by decide)) (hz_new0 _ _) fyX8_says fvX8_37 rfl dX8_item_83 hT2 rfl rfl hA2 rfl rfl (Nat.le_of_ble_eq_true rfl) (by decide) (hz_cap0 _) ?_
        refine hz_ifb_eq (pc := 86) C (tgt := 101) dX8_item_86 rfl (fun zzc4 => ?_) (fun zzc4 => ?_)
        · refine hz_iconst (pc := 101) C (v := nI 0) dX8_item_101 (by decide +kernel) ?_
          exact hz_zretx C Z rfl (by decide +kernel) dX8_item_102 (by
      have hR : pItem t x u false s = (false, s, u) := by unfold pItem; rw [if_neg zzc1, if_neg (by decide), if_neg zzc2, if_neg zzc3, if_neg zzc4]
      rw [hR]
      exact ⟨_, rfl, rfl, tF.rf J, S0, fun z => absurd (show false = true from z) (by decide)⟩)
        · by_cases hk1 : (pDown t x u (nxe t x s)).1 = true
          · refine hz_aload_n (pc := 89) C dX8_item_89 rfl ?_
            refine hz_aload_n (pc := 90) C dX8_item_90 rfl ?_
            refine hz_callVxs (pc := 91) C (as := [.ref 45]) (st := []) (ex_bT hk1 (ex_downI X0 hs S0 V0 U)) fyX8_downItem fvX8_62 rfl dX8_item_91 hT2 rfl rfl hA2 rfl rfl (Nat.le_of_ble_eq_true rfl) (by decide) (hz_cap0 _) (fun K1 h1 => ?_)
            refine hz_if_eq (pc := 94) C (tgt := 101) dX8_item_94 rfl (fun cq => absurd cq (by decide +kernel)) (fun _ => ?_)
            refine hz_iconst (pc := 97) C (v := nI 1) dX8_item_97 (by decide +kernel) ?_
            refine hz_goto (pc := 98) C (tgt := 102) dX8_item_98 rfl ?_
            exact hz_zretx C Z rfl (by decide +kernel) dX8_item_102 (by
      have hR : pItem t x u false s = pDown t x u (nxe t x s) := by unfold pItem; rw [if_neg zzc1, if_neg (by decide), if_neg zzc2, if_neg zzc3, if_pos zzc4]
      rw [hR]
      exact ⟨K1, congrArg (fun b => some (Value.int (bI b))) hk1.symm, rfl, h1⟩)
          · refine hz_aload_n (pc := 89) C dX8_item_89 rfl ?_
            refine hz_aload_n (pc := 90) C dX8_item_90 rfl ?_
            refine hz_callVxs (pc := 91) C (as := [.ref 45]) (st := []) (ex_bF hk1 (ex_downI X0 hs S0 V0 U)) fyX8_downItem fvX8_62 rfl dX8_item_91 hT2 rfl rfl hA2 rfl rfl (Nat.le_of_ble_eq_true rfl) (by decide) (hz_cap0 _) (fun K1 h1 => ?_)
            refine hz_if_eq (pc := 94) C (tgt := 101) dX8_item_94 rfl (fun _ => ?_) (fun cq => absurd (by decide +kernel) cq)
            refine hz_iconst (pc := 101) C (v := nI 0) dX8_item_101 (by decide +kernel) ?_
            exact hz_zretx C Z rfl (by decide +kernel) dX8_item_102 (by
      have hR : pItem t x u false s = pDown t x u (nxe t x s) := by unfold pItem; rw [if_neg zzc1, if_neg (by decide), if_neg zzc2, if_neg zzc3, if_pos zzc4]
      rw [hR]
      exact ⟨K1, congrArg (fun b => some (Value.int (bI b))) (Bool.eq_false_iff.mpr hk1).symm, rfl, h1⟩)
      · by_cases hk2 : u 64 < 6
        · refine hz_aload_n (pc := 57) C dX8_item_57 rfl ?_
          refine hz_getI (pc := 58) C (v := nI (u 64)) ffX8_52 dX8_item_58 hT45 hA45 rfl (dv_al V0) ?_
          refine hz_bipush (pc := 61) C (v := nI 6) dX8_item_61 (by decide +kernel) ?_
          refine hz_ic_ge (pc := 63) C (tgt := 78) dX8_item_63 rfl (fun cq => absurd cq (nI_ge (by omega) (by omega))) (fun _ => ?_)
          by_cases hk3 : (pAlarm t x u (nxe t x s)).1 = true
          · refine hz_aload_n (pc := 66) C dX8_item_66 rfl ?_
            refine hz_aload_n (pc := 67) C dX8_item_67 rfl ?_
            refine hz_callVxs (pc := 68) C (as := [.ref 45]) (st := []) (ex_bT hk3 (ex_alarmI X0 hs S0 V0 U (by omega))) fyX8_alarmItem fvX8_57 rfl dX8_item_68 hT2 rfl rfl hA2 rfl rfl (Nat.le_of_ble_eq_true rfl) (by decide) (hz_cap0 _) (fun K1 h1 => ?_)
            refine hz_if_eq (pc := 71) C (tgt := 78) dX8_item_71 rfl (fun cq => absurd cq (by decide +kernel)) (fun _ => ?_)
            refine hz_iconst (pc := 74) C (v := nI 1) dX8_item_74 (by decide +kernel) ?_
            refine hz_goto (pc := 75) C (tgt := 79) dX8_item_75 rfl ?_
            exact hz_zretx C Z rfl (by decide +kernel) dX8_item_79 (by
      have hR : pItem t x u false s = pAlarm t x u (nxe t x s) := by unfold pItem; rw [if_neg zzc1, if_neg (by decide), if_neg zzc2, if_pos zzc3, if_pos hk2]
      rw [hR]
      exact ⟨K1, congrArg (fun b => some (Value.int (bI b))) hk3.symm, rfl, h1⟩)
          · refine hz_aload_n (pc := 66) C dX8_item_66 rfl ?_
            refine hz_aload_n (pc := 67) C dX8_item_67 rfl ?_
            refine hz_callVxs (pc := 68) C (as := [.ref 45]) (st := []) (ex_bF hk3 (ex_alarmI X0 hs S0 V0 U (by omega))) fyX8_alarmItem fvX8_57 rfl dX8_item_68 hT2 rfl rfl hA2 rfl rfl (Nat.le_of_ble_eq_true rfl) (by decide) (hz_cap0 _) (fun K1 h1 => ?_)
            refine hz_if_eq (pc := 71) C (tgt := 78) dX8_item_71 rfl (fun _ => ?_) (fun cq => absurd (by decide +kernel) cq)
            refine hz_iconst (pc := 78) C (v := nI 0) dX8_item_78 (by decide +kernel) ?_
            exact hz_zretx C Z rfl (by decide +kernel) dX8_item_79 (by
      have hR : pItem t x u false s = pAlarm t x u (nxe t x s) := by unfold pItem; rw [if_neg zzc1, if_neg (by decide), if_neg zzc2, if_pos zzc3, if_pos hk2]
      rw [hR]
      exact ⟨K1, congrArg (fun b => some (Value.int (bI b))) (Bool.eq_false_iff.mpr hk3).symm, rfl, h1⟩)
        · refine hz_aload_n (pc := 57) C dX8_item_57 rfl ?_
          refine hz_getI (pc := 58) C (v := nI (u 64)) ffX8_52 dX8_item_58 hT45 hA45 rfl (dv_al V0) ?_
          refine hz_bipush (pc := 61) C (v := nI 6) dX8_item_61 (by decide +kernel) ?_
          refine hz_ic_ge (pc := 63) C (tgt := 78) dX8_item_63 rfl (fun _ => ?_) (fun cq => absurd (nI_le (by omega) (by omega)) cq)
          refine hz_iconst (pc := 78) C (v := nI 0) dX8_item_78 (by decide +kernel) ?_
          exact hz_zretx C Z rfl (by decide +kernel) dX8_item_79 (by
      have hR : pItem t x u false s = (false, s, u) := by unfold pItem; rw [if_neg zzc1, if_neg (by decide), if_neg zzc2, if_pos zzc3, if_neg hk2]
      rw [hR]
      exact ⟨_, rfl, rfl, tF.rf J, S0, fun z => absurd (show false = true from z) (by decide)⟩)
    · by_cases hk4 : (pDoor t x u (nxe t x s)).1 = true
      · refine hz_aload_n (pc := 42) C dX8_item_42 rfl ?_
        refine hz_aload_n (pc := 43) C dX8_item_43 rfl ?_
        refine hz_callVxs (pc := 44) C (as := [.ref 45]) (st := []) (ex_bT hk4 (ex_doorI X0 hs S0 V0 U)) fyX8_doorItem fvX8_47 rfl dX8_item_44 hT2 rfl rfl hA2 rfl rfl (Nat.le_of_ble_eq_true rfl) (by decide) (hz_cap0 _) (fun K1 h1 => ?_)
        exact hz_zretx C Z rfl (by decide +kernel) dX8_item_47 (by
      have hR : pItem t x u false s = pDoor t x u (nxe t x s) := by unfold pItem; rw [if_neg zzc1, if_neg (by decide), if_pos zzc2]
      rw [hR]
      exact ⟨K1, congrArg (fun b => some (Value.int (bI b))) hk4.symm, rfl, h1⟩)
      · refine hz_aload_n (pc := 42) C dX8_item_42 rfl ?_
        refine hz_aload_n (pc := 43) C dX8_item_43 rfl ?_
        refine hz_callVxs (pc := 44) C (as := [.ref 45]) (st := []) (ex_bF hk4 (ex_doorI X0 hs S0 V0 U)) fyX8_doorItem fvX8_47 rfl dX8_item_44 hT2 rfl rfl hA2 rfl rfl (Nat.le_of_ble_eq_true rfl) (by decide) (hz_cap0 _) (fun K1 h1 => ?_)
        exact hz_zretx C Z rfl (by decide +kernel) dX8_item_47 (by
      have hR : pItem t x u false s = pDoor t x u (nxe t x s) := by unfold pItem; rw [if_neg zzc1, if_neg (by decide), if_pos zzc2]
      rw [hR]
      exact ⟨K1, congrArg (fun b => some (Value.int (bI b))) (Bool.eq_false_iff.mpr hk4).symm, rfl, h1⟩)
  · refine hz_iload_n (pc := 9) C dX8_item_9 rfl ?_
    refine hz_if_eq (pc := 10) C (tgt := 25) dX8_item_10 rfl (fun _ => ?_) (fun cq => absurd (by decide +kernel) cq)
    refine hz_iconst (pc := 25) C (v := nI 0) dX8_item_25 (by decide +kernel) ?_
    exact hz_zretx C Z rfl (by decide +kernel) dX8_item_26 (by
      have hR : pItem t x u false s = (false, s, u) := by unfold pItem; rw [if_pos zzc1, if_neg (by decide)]
      rw [hR]
      exact ⟨_, rfl, rfl, tF.rf J, S0, fun z => absurd (show false = true from z) (by decide)⟩)
def pT (t : Nat) (x : Nat → Nat) : Nat → Nat → Nat → (Nat → Nat) → Bool × Int32 × (Nat → Nat)
  | 0, _, s, u => (false, (-10 : Int32) - nI (bgn t x s), u)
  | n + 1, i, s, u => if 0 < i ∧ kc t x s = 0 then (true, nI i, u) else if (pItem t x u (decide (i = 0)) s).1 = true then pT t x n (i + 1) (pItem t x u (decide (i = 0)) s).2.1 (pItem t x u (decide (i = 0)) s).2.2 else (false, (-10 : Int32) - nI (bgn t x (pItem t x u (decide (i = 0)) s).2.1), u)
section PT
variable {t : Nat} {x u : Nat → Nat} {n i s : Nat}
theorem pT_end (h1 : 0 < i) (h2 : kc t x s = 0) : pT t x (n + 1) i s u = (true, nI i, u) := if_pos ⟨h1, h2⟩
theorem pT_go {b : Bool} (hb : decide (i = 0) = b) (h : ¬ (0 < i ∧ kc t x s = 0)) (hq : (pItem t x u b s).1 = true) : pT t x (n + 1) i s u = pT t x n (i + 1) (pItem t x u b s).2.1 (pItem t x u b s).2.2 := by
  subst hb; exact (if_neg h).trans (if_pos hq)
theorem pT_no {b : Bool} (hb : decide (i = 0) = b) (h : ¬ (0 < i ∧ kc t x s = 0)) (hq : ¬ (pItem t x u b s).1 = true) : pT t x (n + 1) i s u = (false, (-10 : Int32) - nI (bgn t x (pItem t x u b s).2.1), u) := by
  subst hb; exact (if_neg h).trans (if_neg hq)
theorem nxe_t (hs : s ≤ t) : nxe t x s ≤ t := (nxe_ok x hs).2.2.1
theorem pHouse_le (hs : s ≤ t) : (pHouse t x u s).2.1 ≤ t := by
  unfold pHouse
  (repeat' split) <;> first | exact hs | exact nxe_t hs | exact nxe_t (nxe_t hs)
theorem pDoor_le (hs : s ≤ t) : (pDoor t x u s).2.1 ≤ t := by
  unfold pDoor
  (repeat' split) <;> first | exact hs | exact nxe_t hs | exact nxe_t (nxe_t hs) | exact nxe_t (nxe_t (nxe_t hs)) | exact nxe_t (nxe_t (nxe_t (nxe_t hs)))
theorem pAlarm_le (hs : s ≤ t) : (pAlarm t x u s).2.1 ≤ t := by
  unfold pAlarm
  (repeat' split) <;> first | exact hs | exact nxe_t hs | exact nxe_t (nxe_t hs) | exact nxe_t (nxe_t (nxe_t hs)) | exact nxe_t (nxe_t (nxe_t (nxe_t hs)))
theorem pDown_le (hs : s ≤ t) : (pDown t x u s).2.1 ≤ t := by
  unfold pDown
  (repeat' split) <;> first | exact hs | exact nxe_t hs | exact nxe_t (nxe_t hs)
theorem pItem_le {b : Bool} (hs : s ≤ t) : (pItem t x u b s).2.1 ≤ t := by
  unfold pItem
  (repeat' split) <;> first | exact hs | exact pHouse_le (nxe_t hs) | exact pDoor_le (nxe_t hs) | exact pAlarm_le (nxe_t hs) | exact pDown_le (nxe_t hs)
end PT
/-- what a told text leaves behind -/
def tP (q : Nat → Nat → Nat) (J : Nat → Nat → Int32) (R : Bool × Int32 × (Nat → Nat)) (K : Nat → Nat → Int32) : Prop := tF J K ∧ (R.1 = true → DV q K R.2.2 ∧ WU R.2.2)
set_option maxHeartbeats 4000000 in
set_option maxRecDepth 100000 in
theorem lp_tl {X : hz_X} (C : hz_C X mX8_tell) {J : Nat → Nat → Int32} {L : Nat → Nat → Int64} {q : Nat → Nat → Nat} {t : Nat} {x : Nat → Nat} (X0 : tx J t x) {R : Bool × Int32 × (Nat → Nat)} (Z : hz_Zx X TT NN (hz_PI L (PP q) (some (.int R.2.1)) (tP q J R)))  : ∀ (n i : Nat) (K : Nat → Nat → Int32) (s : Nat) (u : Nat → Nat), i + n = 150 → (tF J K ∧ tS K t x s ∧ s ≤ t ∧ DV q K u ∧ WU u ∧ pT t x n i s u = R) → hz_G X TT NN (K, L, PP q) 0 0 11 [some (.ref 2), some (.ref 45), some (.int (nI i))] [] := by
  intro n
  induction n with
  | zero =>
    intro i K s u hi hf
    obtain rfl : 150 = i := by omega
    obtain ⟨hF, hS, hs, hV, hU, hE⟩ := hf
    have X1 := hF.tx X0
    have hkc := kc_le t x s
    refine hz_iload_n (pc := 11) C dX8_tell_11 rfl ?_
    refine hz_sipush (pc := 12) C (v := nI 150) dX8_tell_12 (by decide +kernel) ?_
    refine hz_ic_ge (pc := 15) C (tgt := 57) dX8_tell_15 rfl (fun _ => ?_) (fun cq => absurd (nI_le (by omega) (by omega)) cq)
    refine hz_bipush (pc := 57) C (v := (-10 : Int32)) dX8_tell_57 (by decide +kernel) ?_
    refine hz_aload_n (pc := 59) C dX8_tell_59 rfl ?_
    refine hz_getI (pc := 60) C (v := nI (bgn t x s)) ffX8_32 dX8_tell_60 hT2 hA2 rfl hS.2.1 ?_
    refine hz_isub (pc := 63) C (v := (-10 : Int32) - nI (bgn t x s)) dX8_tell_63 rfl ?_
    exact hz_iretx C Z rfl dX8_tell_64 (by rw [← hE]; exact ⟨_, rfl, rfl, hF, fun z => absurd (show false = true from z) (by decide)⟩)
  | succ n ih =>
    intro i K s u hi hf
    obtain ⟨hF, hS, hs, hV, hU, hE⟩ := hf
    have X1 := hF.tx X0
    have hkc := kc_le t x s
    refine hz_iload_n (pc := 11) C dX8_tell_11 rfl ?_
    refine hz_sipush (pc := 12) C (v := nI 150) dX8_tell_12 (by decide +kernel) ?_
    refine hz_ic_ge (pc := 15) C (tgt := 57) dX8_tell_15 rfl (fun cq => absurd cq (nI_ge (by omega) (by omega))) (fun _ => ?_)
    by_cases hk1 : 0 < i
    · refine hz_iload_n (pc := 18) C dX8_tell_18 rfl ?_
      refine hz_if_le (pc := 19) C (tgt := 31) dX8_tell_19 rfl (fun cq => absurd cq (nI_nle (by omega) (by omega))) (fun _ => ?_)
      by_cases hk2 : kc t x s = 0
      · refine hz_aload_n (pc := 22) C dX8_tell_22 rfl ?_
        refine hz_getI (pc := 23) C (v := nI (kc t x s)) ffX8_25 dX8_tell_23 hT2 hA2 rfl hS.1 ?_
        refine hz_if_ne (pc := 26) C (tgt := 31) dX8_tell_26 rfl (fun cq => absurd (show nI (kc t x s) = 0 by rw [show kc t x s = 0 by omega]; exact nI_0) cq) (fun _ => ?_)
        refine hz_iload_n (pc := 29) C dX8_tell_29 rfl ?_
        exact hz_iretx C Z rfl dX8_tell_30 (by rw [← hE, pT_end hk1 hk2]; exact ⟨_, rfl, rfl, hF, fun _ => ⟨hV, hU⟩⟩)
      · refine hz_aload_n (pc := 22) C dX8_tell_22 rfl ?_
        refine hz_getI (pc := 23) C (v := nI (kc t x s)) ffX8_25 dX8_tell_23 hT2 hA2 rfl hS.1 ?_
        refine hz_if_ne (pc := 26) C (tgt := 31) dX8_tell_26 rfl (fun _ => ?_) (fun cq => absurd cq (nI_ne0 (by omega) (by omega)))
        by_cases hk3 : (pItem t x u false s).1 = true
        · refine hz_aload_n (pc := 31) C dX8_tell_31 rfl ?_
          refine hz_aload_n (pc := 32) C dX8_tell_32 rfl ?_
          refine hz_iload_n (pc := 33) C dX8_tell_33 rfl ?_
          refine hz_if_ne (pc := 34) C (tgt := 41) dX8_tell_34 rfl (fun _ => ?_) (fun cq => absurd cq (nI_ne0 (by omega) (by omega)))
          refine hz_iconst (pc := 41) C (v := nI 0) dX8_tell_41 (by decide +kernel) ?_
          refine hz_callVxs (pc := 42) C (as := [.ref 45, .int (nI 0)]) (st := []) (ex_bT hk3 (ex_item0 X1 hs hS hV hU)) fyX8_item fvX8_28 rfl dX8_tell_42 hT2 rfl rfl hA2 rfl rfl (Nat.le_of_ble_eq_true rfl) (by decide) (hz_cap0 _) (fun K1 h1 => ?_)
          refine hz_if_ne (pc := 45) C (tgt := 51) dX8_tell_45 rfl (fun _ => ?_) (fun cq => absurd cq (by decide +kernel))
          refine hz_iinc (pc := 51) C (v := nI (i + 1)) (ls' := [some (.ref 2), some (.ref 45), some (.int (nI (i + 1)))]) dX8_tell_51 rfl (nI_add _ 1) rfl ?_
          refine hz_goto (pc := 54) C (tgt := 11) dX8_tell_54 rfl ?_
          exact ih (i + 1) K1 _ _ (by omega) ⟨hF.tr h1.1, h1.2.1, pItem_le hs, (h1.2.2 hk3).1, (h1.2.2 hk3).2, (pT_go (decide_eq_false (by omega)) (fun z => hk2 z.2) hk3).symm.trans hE⟩
        · refine hz_aload_n (pc := 31) C dX8_tell_31 rfl ?_
          refine hz_aload_n (pc := 32) C dX8_tell_32 rfl ?_
          refine hz_iload_n (pc := 33) C dX8_tell_33 rfl ?_
          refine hz_if_ne (pc := 34) C (tgt := 41) dX8_tell_34 rfl (fun _ => ?_) (fun cq => absurd cq (nI_ne0 (by omega) (by omega)))
          refine hz_iconst (pc := 41) C (v := nI 0) dX8_tell_41 (by decide +kernel) ?_
          refine hz_callVxs (pc := 42) C (as := [.ref 45, .int (nI 0)]) (st := []) (ex_bF hk3 (ex_item0 X1 hs hS hV hU)) fyX8_item fvX8_28 rfl dX8_tell_42 hT2 rfl rfl hA2 rfl rfl (Nat.le_of_ble_eq_true rfl) (by decide) (hz_cap0 _) (fun K1 h1 => ?_)
          refine hz_if_ne (pc := 45) C (tgt := 51) dX8_tell_45 rfl (fun cq => absurd (by decide +kernel) cq) (fun _ => ?_)
          refine hz_goto (pc := 48) C (tgt := 57) dX8_tell_48 rfl ?_
          refine hz_bipush (pc := 57) C (v := (-10 : Int32)) dX8_tell_57 (by decide +kernel) ?_
          refine hz_aload_n (pc := 59) C dX8_tell_59 rfl ?_
          refine hz_getI (pc := 60) C (v := nI (bgn t x (pItem t x u false s).2.1)) ffX8_32 dX8_tell_60 hT2 hA2 rfl h1.2.1.2.1 ?_
          refine hz_isub (pc := 63) C (v := (-10 : Int32) - nI (bgn t x (pItem t x u false s).2.1)) dX8_tell_63 rfl ?_
          exact hz_iretx C Z rfl dX8_tell_64 (by rw [← hE, pT_no (decide_eq_false (by omega)) (fun z => hk2 z.2) hk3]; exact ⟨_, rfl, rfl, hF.tr h1.1, fun z => absurd (show false = true from z) (by decide)⟩)
    · refine hz_iload_n (pc := 18) C dX8_tell_18 rfl ?_
      refine hz_if_le (pc := 19) C (tgt := 31) dX8_tell_19 rfl (fun _ => ?_) (fun cq => absurd (show nI i ≤ 0 by rw [show i = 0 by omega, nI_0]; decide) cq)
      by_cases hk4 : (pItem t x u true s).1 = true
      · refine hz_aload_n (pc := 31) C dX8_tell_31 rfl ?_
        refine hz_aload_n (pc := 32) C dX8_tell_32 rfl ?_
        refine hz_iload_n (pc := 33) C dX8_tell_33 rfl ?_
        refine hz_if_ne (pc := 34) C (tgt := 41) dX8_tell_34 rfl (fun cq => absurd (show nI i = 0 by rw [show i = 0 by omega]; exact nI_0) cq) (fun _ => ?_)
        refine hz_iconst (pc := 37) C (v := nI 1) dX8_tell_37 (by decide +kernel) ?_
        refine hz_goto (pc := 38) C (tgt := 42) dX8_tell_38 rfl ?_
        refine hz_callVxs (pc := 42) C (as := [.ref 45, .int (nI 1)]) (st := []) (ex_bT hk4 (ex_item1 X1 hs hS hV hU)) fyX8_item fvX8_28 rfl dX8_tell_42 hT2 rfl rfl hA2 rfl rfl (Nat.le_of_ble_eq_true rfl) (by decide) (hz_cap0 _) (fun K1 h1 => ?_)
        refine hz_if_ne (pc := 45) C (tgt := 51) dX8_tell_45 rfl (fun _ => ?_) (fun cq => absurd cq (by decide +kernel))
        refine hz_iinc (pc := 51) C (v := nI (i + 1)) (ls' := [some (.ref 2), some (.ref 45), some (.int (nI (i + 1)))]) dX8_tell_51 rfl (nI_add _ 1) rfl ?_
        refine hz_goto (pc := 54) C (tgt := 11) dX8_tell_54 rfl ?_
        exact ih (i + 1) K1 _ _ (by omega) ⟨hF.tr h1.1, h1.2.1, pItem_le hs, (h1.2.2 hk4).1, (h1.2.2 hk4).2, (pT_go (decide_eq_true (by omega)) (fun z => hk1 z.1) hk4).symm.trans hE⟩
      · refine hz_aload_n (pc := 31) C dX8_tell_31 rfl ?_
        refine hz_aload_n (pc := 32) C dX8_tell_32 rfl ?_
        refine hz_iload_n (pc := 33) C dX8_tell_33 rfl ?_
        refine hz_if_ne (pc := 34) C (tgt := 41) dX8_tell_34 rfl (fun cq => absurd (show nI i = 0 by rw [show i = 0 by omega]; exact nI_0) cq) (fun _ => ?_)
        refine hz_iconst (pc := 37) C (v := nI 1) dX8_tell_37 (by decide +kernel) ?_
        refine hz_goto (pc := 38) C (tgt := 42) dX8_tell_38 rfl ?_
        refine hz_callVxs (pc := 42) C (as := [.ref 45, .int (nI 1)]) (st := []) (ex_bF hk4 (ex_item1 X1 hs hS hV hU)) fyX8_item fvX8_28 rfl dX8_tell_42 hT2 rfl rfl hA2 rfl rfl (Nat.le_of_ble_eq_true rfl) (by decide) (hz_cap0 _) (fun K1 h1 => ?_)
        refine hz_if_ne (pc := 45) C (tgt := 51) dX8_tell_45 rfl (fun cq => absurd (by decide +kernel) cq) (fun _ => ?_)
        refine hz_goto (pc := 48) C (tgt := 57) dX8_tell_48 rfl ?_
        refine hz_bipush (pc := 57) C (v := (-10 : Int32)) dX8_tell_57 (by decide +kernel) ?_
        refine hz_aload_n (pc := 59) C dX8_tell_59 rfl ?_
        refine hz_getI (pc := 60) C (v := nI (bgn t x (pItem t x u true s).2.1)) ffX8_32 dX8_tell_60 hT2 hA2 rfl h1.2.1.2.1 ?_
        refine hz_isub (pc := 63) C (v := (-10 : Int32) - nI (bgn t x (pItem t x u true s).2.1)) dX8_tell_63 rfl ?_
        exact hz_iretx C Z rfl dX8_tell_64 (by rw [← hE, pT_no (decide_eq_true (by omega)) (fun z => hk1 z.1) hk4]; exact ⟨_, rfl, rfl, hF.tr h1.1, fun z => absurd (show false = true from z) (by decide)⟩)
set_option maxHeartbeats 4000000 in
set_option maxRecDepth 100000 in
theorem ex_tell {J : Nat → Nat → Int32} {L : Nat → Nat → Int64} {q : Nat → Nat → Nat} {t : Nat} {x : Nat → Nat} (X0 : tx J t x) {u : Nat → Nat} (V0 : DV q J u) (U : WU u) : hz_Ex mX8_tell TT NN (J, L, PP q) [.ref 2, .ref 45] (hz_PI L (PP q) (some (.int (pT t x 150 0 0 u).2.1)) (tP q J (pT t x 150 0 0 u))) := by
  refine hz_Ex.intro (ls := [some (.ref 2), some (.ref 45), none]) (by decide +kernel) rfl (Nat.le_of_ble_eq_true rfl) (fun X C Z => ?_)
  refine hz_aload_n (pc := 0) C dX8_tell_0 rfl ?_
  refine hz_iconst (pc := 1) C (v := nI 0) dX8_tell_1 (by decide +kernel) ?_
  refine hz_putI (pc := 2) C (M' := (hz_up J 2 4 (nI 0), L, PP q)) ffX8_19 dX8_tell_2 hT2 hA2 rfl rfl ⟨rfl, rfl⟩ rfl ?_
  refine hz_aload_n (pc := 5) C dX8_tell_5 rfl ?_
  refine hz_callVxv (pc := 6) C (as := []) (st := []) (ex_step (X0.cong (by rw [hz_up_eq]; exact va_up_ne _ _ (by decide)) (hz_up_ne _ _ _ _ (by decide))) (Nat.zero_le t) (by rw [hz_up_eq]; exact va_up_self _ _ _)) fyX8_step fvX8_22 rfl dX8_tell_6 hT2 rfl rfl hA2 rfl rfl (Nat.le_of_ble_eq_true rfl) (by decide) (hz_cap0 _) (fun K1 h1 => ?_)
  refine hz_iconst (pc := 9) C (v := nI 0) dX8_tell_9 (by decide +kernel) ?_
  refine hz_istore_n (pc := 10) C (ls' := [some (.ref 2), some (.ref 45), some (.int (nI 0))]) dX8_tell_10 (Nat.le_of_ble_eq_true rfl) rfl ?_
  exact lp_tl C X0 (R := pT t x 150 0 0 u) Z 150 0 K1 0 u rfl ⟨tF.c (J := hz_up J 2 4 (nI 0)) ⟨fun a zzg1 zzg2 => hz_up_ne _ _ _ _ zzg1, by rw [hz_up_eq]; exact va_up_ne _ _ (by decide)⟩ h1.1, h1.2, Nat.zero_le t, h1.1.dv (V0.cong U (fun a zzg1 zzg2 => hz_up_ne _ _ _ _ (by omega))) U, U, rfl⟩

theorem kR_0 {t : Nat} {x : Nat → Nat} {s : Nat} : kR t x s = 0 ↔ kc t x s = 0 := by
  unfold kR
  split
  · rename_i z; rw [z.1]; exact ⟨fun h => absurd h (by decide), fun h => absurd h (by decide)⟩
  · exact Iff.rfl
theorem kR_3 {t : Nat} {x : Nat → Nat} {s : Nat} : kR t x s = 3 ↔ kc t x s = 3 := by
  unfold kR
  split
  · rename_i z; rw [z.1]; exact ⟨fun h => absurd h (by decide), fun h => absurd h (by decide)⟩
  · exact Iff.rfl
theorem stR_n {t : Nat} {x u : Nat → Nat} {R : pR} (h : ¬ R.1 = true) : stR t x u R = R := if_neg h
theorem stR_3 {t : Nat} {x u : Nat → Nat} {R : pR} (h : R.1 = true) (h3 : kc t x (nxe t x R.2.1) = 3) : stR t x u R = (true, nxe t x (nxe t x R.2.1), R.2.2) := (if_pos h).trans (if_pos h3)
theorem stR_4 {t : Nat} {x u : Nat → Nat} {R : pR} (h : R.1 = true) (h3 : ¬ kc t x (nxe t x R.2.1) = 3) : stR t x u R = (false, nxe t x R.2.1, u) := (if_pos h).trans (if_neg h3)
def mG (J K : Nat → Nat → Int32) : Prop := (∀ a, a ≠ 146 → a ≠ 148 → K a = J a) ∧ K 146 7 = J 146 7
theorem mG.f {I J K : Nat → Nat → Int32} (h : mG I J) (g : mF J K) : mG I K := ⟨fun a h1 h2 => (g.1 a h1 h2).trans (h.1 a h1 h2), g.2.1.trans h.2⟩
theorem mG.c {I J K : Nat → Nat → Int32} (h : mG I J) (g : mC J K) : mG I K := ⟨fun a h1 h2 => (g.1 a h1).trans (h.1 a h1 h2), g.2.1.trans h.2⟩
theorem mG.up {J K : Nat → Nat → Int32} (h : mG J K) {k : Nat} (h7 : k ≠ 7) (v : Int32) : mG J (hz_up K 146 k v) := ⟨fun a h1 h2 => (hz_up_ne _ _ _ _ h1).trans (h.1 a h1 h2), (hz_up_nk _ _ _ _ h7.symm).trans h.2⟩
theorem mG.mxt {J K : Nat → Nat → Int32} {t : Nat} {x : Nat → Nat} (h : mG J K) (X0 : mxt J t x) : mxt K t x := ⟨X0.1, h.2.trans X0.2.1, fun j hj => by rw [h.1 152 (by omega) (by omega)]; exact X0.2.2 j hj⟩
/-- what isRead leaves behind -/
def qP (J : Nat → Nat → Int32) (L : Nat → Nat → Int64) (R : Bool × Int32 × (Nat → Nat)) (K : Nat → Nat → Int32) (W : Nat → Nat → Int64) : Prop := mG J K ∧ wC L W ∧ (R.1 = true → MR K R.2.2 ∧ K 146 14 = R.2.1) ∧ (¬ R.1 = true → (-10 : Int32) - K 146 10 = R.2.1)
set_option maxHeartbeats 4000000 in
set_option maxRecDepth 100000 in
theorem lp_rd {X : hz_X} (C : hz_C X mX11_isRead) {J : Nat → Nat → Int32} {L : Nat → Nat → Int64} {q : Nat → Nat → Nat} {t : Nat} {x : Nat → Nat} (X0 : mxt J t x) {R : Bool × Int32 × (Nat → Nat)} (Z : hz_Zx X TT NN (hz_PL (PP q) (some (.int (bI R.1))) (qP J L R)))  : ∀ (n i : Nat) (K : Nat → Nat → Int32) (W : Nat → Nat → Int64) (s : Nat) (u : Nat → Nat), i + n = 150 → (mG J K ∧ wC L W ∧ mS K W t x s ∧ s ≤ t ∧ MR K u ∧ u 100 = 0 ∧ WU u ∧ K 146 14 = nI i ∧ 2 * i ≤ s ∧ pT t x n i s u = R) → hz_G X TT NN (K, W, PP q) 0 0 21 [some (.ref 146)] [] := by
  intro n
  induction n with
  | zero =>
    intro i K W s u hi hf
    obtain rfl : 150 = i := by omega
    obtain ⟨hG, hW, hS, hs, hV, h100, hU, h14, h2i, hE⟩ := hf
    have X1 := hG.mxt X0
    have h150 := X0.1
    have hkr := kR_le t x s
    exact absurd h2i (by omega)
  | succ n ih =>
    intro i K W s u hi hf
    obtain ⟨hG, hW, hS, hs, hV, h100, hU, h14, h2i, hE⟩ := hf
    have X1 := hG.mxt X0
    have h150 := X0.1
    have hkr := kR_le t x s
    refine hz_aload_n (pc := 21) C dX11_isRead_21 rfl ?_
    by_cases hk1 : 0 < i
    · refine hz_getI (pc := 22) C (v := nI (kR t x s)) ffX11_87 dX11_isRead_22 hT146 hA146 rfl hS.2.2.1 ?_
      by_cases hk2 : kR t x s = 0
      · refine hz_if_ne (pc := 25) C (tgt := 35) dX11_isRead_25 rfl (fun cq => absurd (show nI (kR t x s) = 0 by rw [show kR t x s = 0 by omega]; exact nI_0) cq) (fun _ => ?_)
        refine hz_aload_n (pc := 28) C dX11_isRead_28 rfl ?_
        refine hz_getI (pc := 29) C (v := nI i) ffX11_105 dX11_isRead_29 hT146 hA146 rfl h14 ?_
        refine hz_if_ne (pc := 32) C (tgt := 75) dX11_isRead_32 rfl (fun _ => ?_) (fun cq => absurd cq (nI_ne0 (by omega) (by omega)))
        refine hz_iconst (pc := 75) C (v := nI 1) dX11_isRead_75 (by decide +kernel) ?_
        exact hz_zretx C Z rfl (by decide +kernel) dX11_isRead_76 (by rw [← hE, pT_end hk1 (kR_0.mp hk2)]; exact ⟨_, _, rfl, rfl, hG, hW, fun _ => ⟨hV, h14⟩, fun z => absurd rfl z⟩)
      · refine hz_if_ne (pc := 25) C (tgt := 35) dX11_isRead_25 rfl (fun _ => ?_) (fun cq => absurd cq (nI_ne0 (by omega) (by omega)))
        by_cases hk3 : (rItem t x u false s).1 = true
        · refine hz_aload_n (pc := 35) C dX11_isRead_35 rfl ?_
          refine hz_callVls (pc := 36) C (as := []) (st := []) (el_bT hk3 (ex_isIt0 X1 hs hS hV h100 hU hk1 (by omega) h14)) fyX11_isItem fvX11_129 rfl dX11_isRead_36 hT146 rfl rfl hA146 rfl rfl (Nat.le_of_ble_eq_true rfl) (by decide) (hz_cap0 _) (fun K1 W1 h1 => ?_)
          have hg := rg_item hs hU false hk3
          refine hz_if_ne (pc := 39) C (tgt := 44) dX11_isRead_39 rfl (fun _ => ?_) (fun cq => absurd cq (by decide +kernel))
          refine hz_aload_n (pc := 44) C dX11_isRead_44 rfl ?_
          refine hz_callVlv (pc := 45) C (as := []) (st := []) (ex_nextT (h1.1.mxt X1) (nxe_t hg.2.2) h1.2.2.1.1) fyX11_nextToken fvX11_98 rfl dX11_isRead_45 hT146 rfl rfl hA146 rfl rfl (Nat.le_of_ble_eq_true rfl) (by decide) (hz_cap0 _) (fun K2 W2 h2 => ?_)
          have hkr2 := kR_le t x (nxe t x (rItem t x u false s).2.1)
          by_cases hk4 : kc t x (nxe t x (rItem t x u false s).2.1) = 3
          · refine hz_aload_n (pc := 48) C dX11_isRead_48 rfl ?_
            have hq3r := kR_3.mpr hk4
            refine hz_getI (pc := 49) C (v := nI (kR t x (nxe t x (rItem t x u false s).2.1))) ffX11_87 dX11_isRead_49 hT146 hA146 rfl h2.2.2.2.2.1 ?_
            refine hz_iconst (pc := 52) C (v := nI 3) dX11_isRead_52 (by decide +kernel) ?_
            refine hz_ic_eq (pc := 53) C (tgt := 58) dX11_isRead_53 rfl (fun _ => ?_) (fun cq => absurd ((nI_eq (by omega) (by omega)).mpr (by omega)) cq)
            refine hz_aload_n (pc := 58) C dX11_isRead_58 rfl ?_
            refine hz_dup (pc := 59) C dX11_isRead_59 rfl ?_
            refine hz_getI (pc := 60) C (v := nI i) ffX11_105 dX11_isRead_60 hT146 hA146 rfl (h2.1.2.2.trans (h1.1.2.2.trans h14)) ?_
            refine hz_iconst (pc := 63) C (v := nI 1) dX11_isRead_63 (by decide +kernel) ?_
            refine hz_iadd (pc := 64) C (v := nI (i + 1)) dX11_isRead_64 (nI_add _ _) ?_
            refine hz_putI (pc := 65) C (M' := (hz_up K2 146 14 (nI (i + 1)), W2, PP q)) ffX11_105 dX11_isRead_65 hT146 hA146 rfl rfl ⟨rfl, rfl⟩ rfl ?_
            refine hz_aload_n (pc := 68) C dX11_isRead_68 rfl ?_
            refine hz_callVlv (pc := 69) C (as := []) (st := []) (ex_nextT (((((hG.f h1.1).c h2.1).up (k := 14) (by decide) _)).mxt X0) (nxe_t (nxe_t hg.2.2)) (by simp (disch := omega) only [hz_up_eq, hz_up_ne, va_up_ne, va_up_self]; exact h2.2.2.1)) fyX11_nextToken fvX11_98 rfl dX11_isRead_69 hT146 rfl rfl hA146 rfl rfl (Nat.le_of_ble_eq_true rfl) (by decide) (hz_cap0 _) (fun K3 W3 h3 => ?_)
            refine hz_goto (pc := 72) C (tgt := 21) dX11_isRead_72 rfl ?_
            have hP := (st_item hs false).trans (stR_3 (x := x) (u := u) hk3 hk4)
            have hE2 := hE
            rw [pT_go (decide_eq_false (by omega)) (fun z => hk2 (kR_0.mpr z.2)) (by rw [hP]), hP] at hE2
            have zzn2 := nxe_ok x hg.2.2
            have n3 := nxe_ok x (nxe_t (x := x) hg.2.2)
            have zzn4 := n3.2.2.2 (by omega)
            exact ih (i + 1) K3 W3 (nxe t x (nxe t x (rItem t x u false s).2.1)) (rItem t x u false s).2.2 (by omega) ⟨(((hG.f h1.1).c h2.1).up (k := 14) (by decide) _).c h3.1, ((hW.tr h1.2.1).tr h2.2.1).tr h3.2.1, h3.2.2, nxe_t (nxe_t hg.2.2), h3.1.mr ((h2.1.mr (h1.2.2.2 hk3).1).cong (hz_up_ne _ _ _ _ (by decide))), (h1.2.2.2 hk3).2, hg.1, h3.1.2.2.trans (hz_up_self _ _ _ _), by omega, hE2⟩
          · refine hz_aload_n (pc := 48) C dX11_isRead_48 rfl ?_
            have hq3r := fun z => hk4 (kR_3.mp z)
            refine hz_getI (pc := 49) C (v := nI (kR t x (nxe t x (rItem t x u false s).2.1))) ffX11_87 dX11_isRead_49 hT146 hA146 rfl h2.2.2.2.2.1 ?_
            refine hz_iconst (pc := 52) C (v := nI 3) dX11_isRead_52 (by decide +kernel) ?_
            refine hz_ic_eq (pc := 53) C (tgt := 58) dX11_isRead_53 rfl (fun cq => absurd ((nI_eq (by omega) (by omega)).mp cq) (by omega)) (fun _ => ?_)
            refine hz_iconst (pc := 56) C (v := nI 0) dX11_isRead_56 (by decide +kernel) ?_
            exact hz_zretx C Z rfl (by decide +kernel) dX11_isRead_57 (by
      have hP := (st_item hs false).trans (stR_4 (x := x) (u := u) hk3 hk4)
      rw [← hE, pT_no (decide_eq_false (by omega)) (fun z => hk2 (kR_0.mpr z.2)) (by rw [hP]; exact fun z => absurd (show false = true from z) (by decide)), hP]
      exact ⟨_, _, rfl, rfl, (hG.f h1.1).c h2.1, (hW.tr h1.2.1).tr h2.2.1, fun z => absurd (show false = true from z) (by decide), fun _ => by rw [h2.2.2.2.1]⟩)
        · refine hz_aload_n (pc := 35) C dX11_isRead_35 rfl ?_
          refine hz_callVls (pc := 36) C (as := []) (st := []) (el_bF hk3 (ex_isIt0 X1 hs hS hV h100 hU hk1 (by omega) h14)) fyX11_isItem fvX11_129 rfl dX11_isRead_36 hT146 rfl rfl hA146 rfl rfl (Nat.le_of_ble_eq_true rfl) (by decide) (hz_cap0 _) (fun K1 W1 h1 => ?_)
          refine hz_if_ne (pc := 39) C (tgt := 44) dX11_isRead_39 rfl (fun cq => absurd (by decide +kernel) cq) (fun _ => ?_)
          refine hz_iconst (pc := 42) C (v := nI 0) dX11_isRead_42 (by decide +kernel) ?_
          exact hz_zretx C Z rfl (by decide +kernel) dX11_isRead_43 (by
      have hP := (st_item hs false).trans (stR_n (x := x) (u := u) hk3)
      rw [← hE, pT_no (decide_eq_false (by omega)) (fun z => hk2 (kR_0.mpr z.2)) (by rw [hP]; exact hk3), hP]
      exact ⟨_, _, rfl, rfl, hG.f h1.1, hW.tr h1.2.1, fun z => absurd (show false = true from z) (by decide), fun _ => by rw [h1.2.2.1.2.1]⟩)
    · refine hz_getI (pc := 22) C (v := nI (kR t x s)) ffX11_87 dX11_isRead_22 hT146 hA146 rfl hS.2.2.1 ?_
      by_cases hk5 : kR t x s = 0
      · refine hz_if_ne (pc := 25) C (tgt := 35) dX11_isRead_25 rfl (fun cq => absurd (show nI (kR t x s) = 0 by rw [show kR t x s = 0 by omega]; exact nI_0) cq) (fun _ => ?_)
        refine hz_aload_n (pc := 28) C dX11_isRead_28 rfl ?_
        refine hz_getI (pc := 29) C (v := nI i) ffX11_105 dX11_isRead_29 hT146 hA146 rfl h14 ?_
        refine hz_if_ne (pc := 32) C (tgt := 75) dX11_isRead_32 rfl (fun cq => absurd (show nI i = 0 by rw [show i = 0 by omega]; exact nI_0) cq) (fun _ => ?_)
        by_cases hk6 : (rItem t x u true s).1 = true
        · refine hz_aload_n (pc := 35) C dX11_isRead_35 rfl ?_
          refine hz_callVls (pc := 36) C (as := []) (st := []) (el_bT hk6 (ex_isIt1 X1 hs hS hV h100 hU (by rw [h14, show i = 0 by omega]))) fyX11_isItem fvX11_129 rfl dX11_isRead_36 hT146 rfl rfl hA146 rfl rfl (Nat.le_of_ble_eq_true rfl) (by decide) (hz_cap0 _) (fun K1 W1 h1 => ?_)
          have hg := rg_item hs hU true hk6
          refine hz_if_ne (pc := 39) C (tgt := 44) dX11_isRead_39 rfl (fun _ => ?_) (fun cq => absurd cq (by decide +kernel))
          refine hz_aload_n (pc := 44) C dX11_isRead_44 rfl ?_
          refine hz_callVlv (pc := 45) C (as := []) (st := []) (ex_nextT (h1.1.mxt X1) (nxe_t hg.2.2) h1.2.2.1.1) fyX11_nextToken fvX11_98 rfl dX11_isRead_45 hT146 rfl rfl hA146 rfl rfl (Nat.le_of_ble_eq_true rfl) (by decide) (hz_cap0 _) (fun K2 W2 h2 => ?_)
          have hkr2 := kR_le t x (nxe t x (rItem t x u true s).2.1)
          by_cases hk7 : kc t x (nxe t x (rItem t x u true s).2.1) = 3
          · refine hz_aload_n (pc := 48) C dX11_isRead_48 rfl ?_
            have hq3r := kR_3.mpr hk7
            refine hz_getI (pc := 49) C (v := nI (kR t x (nxe t x (rItem t x u true s).2.1))) ffX11_87 dX11_isRead_49 hT146 hA146 rfl h2.2.2.2.2.1 ?_
            refine hz_iconst (pc := 52) C (v := nI 3) dX11_isRead_52 (by decide +kernel) ?_
            refine hz_ic_eq (pc := 53) C (tgt := 58) dX11_isRead_53 rfl (fun _ => ?_) (fun cq => absurd ((nI_eq (by omega) (by omega)).mpr (by omega)) cq)
            refine hz_aload_n (pc := 58) C dX11_isRead_58 rfl ?_
            refine hz_dup (pc := 59) C dX11_isRead_59 rfl ?_
            refine hz_getI (pc := 60) C (v := nI i) ffX11_105 dX11_isRead_60 hT146 hA146 rfl (h2.1.2.2.trans (h1.1.2.2.trans h14)) ?_
            refine hz_iconst (pc := 63) C (v := nI 1) dX11_isRead_63 (by decide +kernel) ?_
            refine hz_iadd (pc := 64) C (v := nI (i + 1)) dX11_isRead_64 (nI_add _ _) ?_
            refine hz_putI (pc := 65) C (M' := (hz_up K2 146 14 (nI (i + 1)), W2, PP q)) ffX11_105 dX11_isRead_65 hT146 hA146 rfl rfl ⟨rfl, rfl⟩ rfl ?_
            refine hz_aload_n (pc := 68) C dX11_isRead_68 rfl ?_
            refine hz_callVlv (pc := 69) C (as := []) (st := []) (ex_nextT (((((hG.f h1.1).c h2.1).up (k := 14) (by decide) _)).mxt X0) (nxe_t (nxe_t hg.2.2)) (by simp (disch := omega) only [hz_up_eq, hz_up_ne, va_up_ne, va_up_self]; exact h2.2.2.1)) fyX11_nextToken fvX11_98 rfl dX11_isRead_69 hT146 rfl rfl hA146 rfl rfl (Nat.le_of_ble_eq_true rfl) (by decide) (hz_cap0 _) (fun K3 W3 h3 => ?_)
            refine hz_goto (pc := 72) C (tgt := 21) dX11_isRead_72 rfl ?_
            have hP := (st_item hs true).trans (stR_3 (x := x) (u := u) hk6 hk7)
            have hE2 := hE
            rw [pT_go (decide_eq_true (by omega)) (fun z => hk1 z.1) (by rw [hP]), hP] at hE2
            have zzn2 := nxe_ok x hg.2.2
            have n3 := nxe_ok x (nxe_t (x := x) hg.2.2)
            have zzn4 := n3.2.2.2 (by omega)
            exact ih (i + 1) K3 W3 (nxe t x (nxe t x (rItem t x u true s).2.1)) (rItem t x u true s).2.2 (by omega) ⟨(((hG.f h1.1).c h2.1).up (k := 14) (by decide) _).c h3.1, ((hW.tr h1.2.1).tr h2.2.1).tr h3.2.1, h3.2.2, nxe_t (nxe_t hg.2.2), h3.1.mr ((h2.1.mr (h1.2.2.2 hk6).1).cong (hz_up_ne _ _ _ _ (by decide))), (h1.2.2.2 hk6).2, hg.1, h3.1.2.2.trans (hz_up_self _ _ _ _), by omega, hE2⟩
          · refine hz_aload_n (pc := 48) C dX11_isRead_48 rfl ?_
            have hq3r := fun z => hk7 (kR_3.mp z)
            refine hz_getI (pc := 49) C (v := nI (kR t x (nxe t x (rItem t x u true s).2.1))) ffX11_87 dX11_isRead_49 hT146 hA146 rfl h2.2.2.2.2.1 ?_
            refine hz_iconst (pc := 52) C (v := nI 3) dX11_isRead_52 (by decide +kernel) ?_
            refine hz_ic_eq (pc := 53) C (tgt := 58) dX11_isRead_53 rfl (fun cq => absurd ((nI_eq (by omega) (by omega)).mp cq) (by omega)) (fun _ => ?_)
            refine hz_iconst (pc := 56) C (v := nI 0) dX11_isRead_56 (by decide +kernel) ?_
            exact hz_zretx C Z rfl (by decide +kernel) dX11_isRead_57 (by
      have hP := (st_item hs true).trans (stR_4 (x := x) (u := u) hk6 hk7)
      rw [← hE, pT_no (decide_eq_true (by omega)) (fun z => hk1 z.1) (by rw [hP]; exact fun z => absurd (show false = true from z) (by decide)), hP]
      exact ⟨_, _, rfl, rfl, (hG.f h1.1).c h2.1, (hW.tr h1.2.1).tr h2.2.1, fun z => absurd (show false = true from z) (by decide), fun _ => by rw [h2.2.2.2.1]⟩)
        · refine hz_aload_n (pc := 35) C dX11_isRead_35 rfl ?_
          refine hz_callVls (pc := 36) C (as := []) (st := []) (el_bF hk6 (ex_isIt1 X1 hs hS hV h100 hU (by rw [h14, show i = 0 by omega]))) fyX11_isItem fvX11_129 rfl dX11_isRead_36 hT146 rfl rfl hA146 rfl rfl (Nat.le_of_ble_eq_true rfl) (by decide) (hz_cap0 _) (fun K1 W1 h1 => ?_)
          refine hz_if_ne (pc := 39) C (tgt := 44) dX11_isRead_39 rfl (fun cq => absurd (by decide +kernel) cq) (fun _ => ?_)
          refine hz_iconst (pc := 42) C (v := nI 0) dX11_isRead_42 (by decide +kernel) ?_
          exact hz_zretx C Z rfl (by decide +kernel) dX11_isRead_43 (by
      have hP := (st_item hs true).trans (stR_n (x := x) (u := u) hk6)
      rw [← hE, pT_no (decide_eq_true (by omega)) (fun z => hk1 z.1) (by rw [hP]; exact hk6), hP]
      exact ⟨_, _, rfl, rfl, hG.f h1.1, hW.tr h1.2.1, fun z => absurd (show false = true from z) (by decide), fun _ => by rw [h1.2.2.1.2.1]⟩)
      · refine hz_if_ne (pc := 25) C (tgt := 35) dX11_isRead_25 rfl (fun _ => ?_) (fun cq => absurd cq (nI_ne0 (by omega) (by omega)))
        by_cases hk8 : (rItem t x u true s).1 = true
        · refine hz_aload_n (pc := 35) C dX11_isRead_35 rfl ?_
          refine hz_callVls (pc := 36) C (as := []) (st := []) (el_bT hk8 (ex_isIt1 X1 hs hS hV h100 hU (by rw [h14, show i = 0 by omega]))) fyX11_isItem fvX11_129 rfl dX11_isRead_36 hT146 rfl rfl hA146 rfl rfl (Nat.le_of_ble_eq_true rfl) (by decide) (hz_cap0 _) (fun K1 W1 h1 => ?_)
          have hg := rg_item hs hU true hk8
          refine hz_if_ne (pc := 39) C (tgt := 44) dX11_isRead_39 rfl (fun _ => ?_) (fun cq => absurd cq (by decide +kernel))
          refine hz_aload_n (pc := 44) C dX11_isRead_44 rfl ?_
          refine hz_callVlv (pc := 45) C (as := []) (st := []) (ex_nextT (h1.1.mxt X1) (nxe_t hg.2.2) h1.2.2.1.1) fyX11_nextToken fvX11_98 rfl dX11_isRead_45 hT146 rfl rfl hA146 rfl rfl (Nat.le_of_ble_eq_true rfl) (by decide) (hz_cap0 _) (fun K2 W2 h2 => ?_)
          have hkr2 := kR_le t x (nxe t x (rItem t x u true s).2.1)
          by_cases hk9 : kc t x (nxe t x (rItem t x u true s).2.1) = 3
          · refine hz_aload_n (pc := 48) C dX11_isRead_48 rfl ?_
            have hq3r := kR_3.mpr hk9
            refine hz_getI (pc := 49) C (v := nI (kR t x (nxe t x (rItem t x u true s).2.1))) ffX11_87 dX11_isRead_49 hT146 hA146 rfl h2.2.2.2.2.1 ?_
            refine hz_iconst (pc := 52) C (v := nI 3) dX11_isRead_52 (by decide +kernel) ?_
            refine hz_ic_eq (pc := 53) C (tgt := 58) dX11_isRead_53 rfl (fun _ => ?_) (fun cq => absurd ((nI_eq (by omega) (by omega)).mpr (by omega)) cq)
            refine hz_aload_n (pc := 58) C dX11_isRead_58 rfl ?_
            refine hz_dup (pc := 59) C dX11_isRead_59 rfl ?_
            refine hz_getI (pc := 60) C (v := nI i) ffX11_105 dX11_isRead_60 hT146 hA146 rfl (h2.1.2.2.trans (h1.1.2.2.trans h14)) ?_
            refine hz_iconst (pc := 63) C (v := nI 1) dX11_isRead_63 (by decide +kernel) ?_
            refine hz_iadd (pc := 64) C (v := nI (i + 1)) dX11_isRead_64 (nI_add _ _) ?_
            refine hz_putI (pc := 65) C (M' := (hz_up K2 146 14 (nI (i + 1)), W2, PP q)) ffX11_105 dX11_isRead_65 hT146 hA146 rfl rfl ⟨rfl, rfl⟩ rfl ?_
            refine hz_aload_n (pc := 68) C dX11_isRead_68 rfl ?_
            refine hz_callVlv (pc := 69) C (as := []) (st := []) (ex_nextT (((((hG.f h1.1).c h2.1).up (k := 14) (by decide) _)).mxt X0) (nxe_t (nxe_t hg.2.2)) (by simp (disch := omega) only [hz_up_eq, hz_up_ne, va_up_ne, va_up_self]; exact h2.2.2.1)) fyX11_nextToken fvX11_98 rfl dX11_isRead_69 hT146 rfl rfl hA146 rfl rfl (Nat.le_of_ble_eq_true rfl) (by decide) (hz_cap0 _) (fun K3 W3 h3 => ?_)
            refine hz_goto (pc := 72) C (tgt := 21) dX11_isRead_72 rfl ?_
            have hP := (st_item hs true).trans (stR_3 (x := x) (u := u) hk8 hk9)
            have hE2 := hE
            rw [pT_go (decide_eq_true (by omega)) (fun z => hk1 z.1) (by rw [hP]), hP] at hE2
            have zzn2 := nxe_ok x hg.2.2
            have n3 := nxe_ok x (nxe_t (x := x) hg.2.2)
            have zzn4 := n3.2.2.2 (by omega)
            exact ih (i + 1) K3 W3 (nxe t x (nxe t x (rItem t x u true s).2.1)) (rItem t x u true s).2.2 (by omega) ⟨(((hG.f h1.1).c h2.1).up (k := 14) (by decide) _).c h3.1, ((hW.tr h1.2.1).tr h2.2.1).tr h3.2.1, h3.2.2, nxe_t (nxe_t hg.2.2), h3.1.mr ((h2.1.mr (h1.2.2.2 hk8).1).cong (hz_up_ne _ _ _ _ (by decide))), (h1.2.2.2 hk8).2, hg.1, h3.1.2.2.trans (hz_up_self _ _ _ _), by omega, hE2⟩
          · refine hz_aload_n (pc := 48) C dX11_isRead_48 rfl ?_
            have hq3r := fun z => hk9 (kR_3.mp z)
            refine hz_getI (pc := 49) C (v := nI (kR t x (nxe t x (rItem t x u true s).2.1))) ffX11_87 dX11_isRead_49 hT146 hA146 rfl h2.2.2.2.2.1 ?_
            refine hz_iconst (pc := 52) C (v := nI 3) dX11_isRead_52 (by decide +kernel) ?_
            refine hz_ic_eq (pc := 53) C (tgt := 58) dX11_isRead_53 rfl (fun cq => absurd ((nI_eq (by omega) (by omega)).mp cq) (by omega)) (fun _ => ?_)
            refine hz_iconst (pc := 56) C (v := nI 0) dX11_isRead_56 (by decide +kernel) ?_
            exact hz_zretx C Z rfl (by decide +kernel) dX11_isRead_57 (by
      have hP := (st_item hs true).trans (stR_4 (x := x) (u := u) hk8 hk9)
      rw [← hE, pT_no (decide_eq_true (by omega)) (fun z => hk1 z.1) (by rw [hP]; exact fun z => absurd (show false = true from z) (by decide)), hP]
      exact ⟨_, _, rfl, rfl, (hG.f h1.1).c h2.1, (hW.tr h1.2.1).tr h2.2.1, fun z => absurd (show false = true from z) (by decide), fun _ => by rw [h2.2.2.2.1]⟩)
        · refine hz_aload_n (pc := 35) C dX11_isRead_35 rfl ?_
          refine hz_callVls (pc := 36) C (as := []) (st := []) (el_bF hk8 (ex_isIt1 X1 hs hS hV h100 hU (by rw [h14, show i = 0 by omega]))) fyX11_isItem fvX11_129 rfl dX11_isRead_36 hT146 rfl rfl hA146 rfl rfl (Nat.le_of_ble_eq_true rfl) (by decide) (hz_cap0 _) (fun K1 W1 h1 => ?_)
          refine hz_if_ne (pc := 39) C (tgt := 44) dX11_isRead_39 rfl (fun cq => absurd (by decide +kernel) cq) (fun _ => ?_)
          refine hz_iconst (pc := 42) C (v := nI 0) dX11_isRead_42 (by decide +kernel) ?_
          exact hz_zretx C Z rfl (by decide +kernel) dX11_isRead_43 (by
      have hP := (st_item hs true).trans (stR_n (x := x) (u := u) hk8)
      rw [← hE, pT_no (decide_eq_true (by omega)) (fun z => hk1 z.1) (by rw [hP]; exact hk8), hP]
      exact ⟨_, _, rfl, rfl, hG.f h1.1, hW.tr h1.2.1, fun z => absurd (show false = true from z) (by decide), fun _ => by rw [h1.2.2.1.2.1]⟩)

theorem vl_99 {t : Nat} {x : Nat → Nat} {s : Nat} (hs : s ≤ t) (h1 : kc t x s = 2) (h2 : nxe t x s - bgn t x s ≤ 2) : vl t x s ≤ 99 := by
  have hn := nxe_ok x hs
  have hd : ∀ j, bgn t x s ≤ j → j < nxe t x s → 48 ≤ x j ∧ x j ≤ 57 := by
    have e : nxe t x s = rn t x 48 57 (bgn t x s) := by unfold nxe; rw [h1]; rfl
    rw [e]
    exact (rn_ok t x 48 57 (p := bgn t x s) (by omega)).2.2
  have hlt := hn.2.2.2 (by omega)
  have zzd0 := hd (bgn t x s) (Nat.le_refl _) hlt
  unfold vl vd
  split
  · omega
  · have zzd1 := hd (bgn t x s + 1) (by omega) (by omega)
    omega
theorem vl_lt {t : Nat} {x : Nat → Nat} {s : Nat} (hs : s ≤ t) (h1 : kc t x s = 2) (h2 : nxe t x s - bgn t x s ≤ 2) : vl t x s < 2 ^ 31 := Nat.lt_of_le_of_lt (vl_99 hs h1 h2) (by decide)
theorem okn_b {t : Nat} {x : Nat → Nat} {s lo hb : Nat} (hs : s ≤ t) (hlo : lo < 100) (h : okn t x s lo (nI hb) = true) : lo ≤ vl t x s ∧ vl t x s ≤ hb ∧ vl t x s ≤ 99 := by
  obtain ⟨h1, h2, h3, h4⟩ := okn_i.mp h
  have hv := vl_99 hs h1 h2
  exact ⟨Nat.le_of_not_lt fun z => h3 (nI_lt z (by omega)), Nat.le_of_not_lt fun z => h4 (nI_lt z (by omega)), hv⟩
abbrev pR : Type := Bool × Nat × (Nat → Nat)
def bI (b : Bool) : Int32 := if b = true then nI 1 else nI 0
def pHouse (t : Nat) (x u : Nat → Nat) (s : Nat) : pR := if okn t x s 0 (nI 9) = true then (if kc t x (nxe t x s) = 3 then (true, nxe t x (nxe t x s), va_up u 92 (vl t x s)) else (false, nxe t x s, u)) else (false, s, u)
def pDoor (t : Nat) (x u : Nat → Nat) (s : Nat) : pR := if okn t x s 0 (nI 7) = true then (if vC t x (nxe t x s) = nI (vl t x s) then (false, nxe t x s, u) else if okn t x (nxe t x s) 0 (nI 7) = true then (if okn t x (nxe t x (nxe t x s)) 1 (nI 9) = true then (if kc t x (nxe t x (nxe t x (nxe t x s))) = 3 then (true, nxe t x (nxe t x (nxe t x (nxe t x s))), va_up (va_up u (8 * vl t x s + vl t x (nxe t x s)) (vl t x (nxe t x (nxe t x s)))) (8 * vl t x (nxe t x s) + vl t x s) (vl t x (nxe t x (nxe t x s)))) else (false, nxe t x (nxe t x (nxe t x s)), u)) else (false, nxe t x (nxe t x s), u)) else (false, nxe t x s, u)) else (false, s, u)
def alU (u : Nat → Nat) (kd rm ba : Nat) : Nat → Nat := va_up (va_up (va_up (va_up (va_up u (65 + u 64) kd) (71 + u 64) rm) (94 + u 64) ba) 64 (u 64 + 1)) 100 0
def pAlarm (t : Nat) (x u : Nat → Nat) (s : Nat) : pR := if okn t x s 0 (nI 5) = true then (if okn t x (nxe t x s) 0 (nI 7) = true then (if okn t x (nxe t x (nxe t x s)) 0 (nI 99) = true then (if kc t x (nxe t x (nxe t x (nxe t x s))) = 3 then (true, nxe t x (nxe t x (nxe t x (nxe t x s))), alU u (vl t x s) (vl t x (nxe t x s)) (vl t x (nxe t x (nxe t x s)))) else (false, nxe t x (nxe t x (nxe t x s)), u)) else (false, nxe t x (nxe t x s), u)) else (false, nxe t x s, u)) else (false, s, u)
def pDown (t : Nat) (x u : Nat → Nat) (s : Nat) : pR := if okn t x s 0 (nI (u 64) - nI 1) = true then (if kc t x (nxe t x s) = 3 then (true, nxe t x (nxe t x s), va_up u 93 (dnb (u 93) (vl t x s) 1)) else (false, nxe t x s, u)) else (false, s, u)
def tF (J K : Nat → Nat → Int32) : Prop := (∀ a, a ≠ 2 → (a < 45 ∨ 77 < a) → K a = J a) ∧ K 2 1 = J 2 1
theorem tF.rf (J : Nat → Nat → Int32) : tF J J := ⟨fun _ _ _ => rfl, rfl⟩
theorem tF.c {I J K : Nat → Nat → Int32} (h : tF I J) (g : tC J K) : tF I K := ⟨fun a h1 h2 => (g.1 a h1).trans (h.1 a h1 h2), g.2.trans h.2⟩
theorem tF.tr {I J K : Nat → Nat → Int32} (h : tF I J) (g : tF J K) : tF I K := ⟨fun a h1 h2 => (g.1 a h1 h2).trans (h.1 a h1 h2), g.2.trans h.2⟩
theorem tF.tx {J K : Nat → Nat → Int32} {t : Nat} {x : Nat → Nat} (h : tF J K) (X0 : tx J t x) : tx K t x := X0.cong h.2 (h.1 3 (by omega) (by omega))
theorem tC.dv {q : Nat → Nat → Nat} {J K : Nat → Nat → Int32} {u : Nat → Nat} (h : tC J K) (V : DV q J u) (U : WU u) : DV q K u := V.cong U (fun a h1 h2 => h.1 a (by omega))
/-- what an item leaves behind -/
def iP (q : Nat → Nat → Nat) (t : Nat) (x : Nat → Nat) (J : Nat → Nat → Int32) (R : pR) (K : Nat → Nat → Int32) : Prop := tF J K ∧ tS K t x R.2.1 ∧ (R.1 = true → DV q K R.2.2 ∧ WU R.2.2)
theorem tS.cong {J K : Nat → Nat → Int32} {t : Nat} {x : Nat → Nat} {s : Nat} (h : tS J t x s) (e : K 2 = J 2) : tS K t x s := by
  unfold tS at h ⊢
  rw [e]; exact h
theorem rJ_u {α : Type} {a b : Nat} (h : rho a = b) (J : Nat → Nat → α) (k : Nat) (v : α) : rJ (hz_up J b k v) = hz_up (rJ J) a k v := h ▸ rJ_up J a k v
theorem rJ_s {a b : Nat} (h : rho a = b) (J : Nat → Nat → Int32) (f : Nat → Int32) : rJ (hz_sa J b f) = hz_sa (rJ J) a f := h ▸ rJ_sa J a f
theorem dv_al {q : Nat → Nat → Nat} {J : Nat → Nat → Int32} {u : Nat → Nat} (V : DV q J u) : J 45 10 = nI (u 64) := V.2.1
theorem dv_dn {q : Nat → Nat → Nat} {J : Nat → Nat → Int32} {u : Nat → Nat} (V : DV q J u) : J 52 4 = nI (u 93) := hv_dn V
set_option maxHeartbeats 4000000 in
set_option maxRecDepth 100000 in
theorem ex_houseI {J : Nat → Nat → Int32} {L : Nat → Nat → Int64} {q : Nat → Nat → Nat} {t : Nat} {x : Nat → Nat} (X0 : tx J t x) {s : Nat} (hs : s ≤ t) (S0 : tS J t x s) {u : Nat → Nat} (V0 : DV q J u) (U : WU u) : hz_Ex mX8_houseItem TT NN (J, L, PP q) [.ref 2, .ref 45] (hz_PI L (PP q) (some (.int (bI (pHouse t x u (nxe t x s)).1))) (iP q t x J (pHouse t x u (nxe t x s)))) := by
  have hal := wu_al U
  have hv9 : ∀ {lo : Nat} {v : Int32} (p : Nat), p ≤ t → okn t x p lo v = true → vl t x p ≤ 99 := fun p hp h => by
    obtain ⟨h1, h2, -, -⟩ := okn_i.mp h
    exact vl_99 hp h1 h2
  refine hz_Ex.intro (ls := [some (.ref 2), some (.ref 45), none]) (by decide +kernel) rfl (Nat.le_of_ble_eq_true rfl) (fun X C Z => ?_)
  refine hz_aload_n (pc := 0) C dX8_houseItem_0 rfl ?_
  refine hz_callVxv (pc := 1) C (as := []) (st := []) (ex_step X0 (nxe_ok x hs).2.2.1 S0.2.2.1) fyX8_step fvX8_22 rfl dX8_houseItem_1 hT2 rfl rfl hA2 rfl rfl (Nat.le_of_ble_eq_true rfl) (by decide) (hz_cap0 _) (fun K1 h1 => ?_)
  have X1 := h1.1.tx X0
  have S1 := h1.2
  have hs1 : nxe t x s ≤ t := (nxe_ok x hs).2.2.1
  have F1 := (tF.rf J).c h1.1
  have V1 := h1.1.dv V0 U
  refine hz_aload_n (pc := 4) C dX8_houseItem_4 rfl ?_
  refine hz_iconst (pc := 5) C (v := nI 0) dX8_houseItem_5 (by decide +kernel) ?_
  refine hz_bipush (pc := 6) C (v := nI 9) dX8_houseItem_6 (by decide +kernel) ?_
  by_cases hk1 : okn t x (nxe t x s) 0 (nI 9) = true
  · refine hz_callVxs (pc := 8) C (as := [.int (nI 0), .int (nI 9)]) (st := []) (ex_numY X1 hs1 S1 hk1) fyX8_number fvX8_65 rfl dX8_houseItem_8 hT2 rfl rfl hA2 rfl rfl (Nat.le_of_ble_eq_true rfl) (by decide) (hz_cap0 _) (fun K2 h2 => ?_)
    have X2 := h2.1.tx X1
    have S2 := h2.2
    have hs2 : nxe t x (nxe t x s) ≤ t := (nxe_ok x hs1).2.2.1
    have F2 := F1.c h2.1
    have V2 := h2.1.dv V1 U
    refine hz_istore_n (pc := 11) C (ls' := [some (.ref 2), some (.ref 45), some (.int (nI (vl t x (nxe t x s))))]) dX8_houseItem_11 (Nat.le_of_ble_eq_true rfl) rfl ?_
    refine hz_iload_n (pc := 12) C dX8_houseItem_12 rfl ?_
    refine hz_iconst (pc := 13) C (v := (-1 : Int32)) dX8_houseItem_13 (by decide +kernel) ?_
    refine hz_ic_eq (pc := 14) C (tgt := 24) dX8_houseItem_14 rfl (fun cq => absurd cq (nm1 (Nat.lt_of_le_of_lt (hv9 _ (by assumption) (by assumption)) (by decide)))) (fun _ => ?_)
    refine hz_aload_n (pc := 17) C dX8_houseItem_17 rfl ?_
    by_cases hk2 : kc t x (nxe t x (nxe t x s)) = 3
    · refine hz_callVxs (pc := 18) C (as := []) (st := []) (ex_stopY X2 hs2 S2 hk2) fyX8_stop fvX8_69 rfl dX8_houseItem_18 hT2 rfl rfl hA2 rfl rfl (Nat.le_of_ble_eq_true rfl) (by decide) (hz_cap0 _) (fun K3 h3 => ?_)
      have X3 := h3.1.tx X2
      have S3 := h3.2
      have hs3 : nxe t x (nxe t x (nxe t x s)) ≤ t := (nxe_ok x hs2).2.2.1
      have F3 := F2.c h3.1
      have V3 := h3.1.dv V2 U
      refine hz_if_ne (pc := 21) C (tgt := 26) dX8_houseItem_21 rfl (fun _ => ?_) (fun cq => absurd cq (by decide +kernel))
      refine hz_aload_n (pc := 26) C dX8_houseItem_26 rfl ?_
      refine hz_getP (pc := 27) C (v := 52) ffX8_73 dX8_houseItem_27 hT45 hA45 rfl (hP45_7 q) (by decide) ?_
      refine hz_iload_n (pc := 30) C dX8_houseItem_30 rfl ?_
      refine hz_putI (pc := 31) C (M' := (hz_up K3 52 3 (nI (vl t x (nxe t x s))), L, PP q)) ffX8_77 dX8_houseItem_31 hT52 hA52 rfl rfl ⟨rfl, rfl⟩ rfl ?_
      refine hz_iconst (pc := 34) C (v := nI 1) dX8_houseItem_34 (by decide +kernel) ?_
      exact hz_zretx C Z rfl (by decide +kernel) dX8_houseItem_35 (by
      have hR : pHouse t x u (nxe t x s) = (true, nxe t x (nxe t x (nxe t x s)), va_up u 92 (vl t x (nxe t x s))) := by unfold pHouse; rw [if_pos hk1, if_pos hk2]
      rw [hR]
      refine ⟨_, rfl, rfl, F3.tr ⟨fun a h1 h2 => hz_up_ne _ _ _ _ (by omega), by rw [hz_up_ne _ _ _ _ (by omega)]⟩, S3.cong (hz_up_ne _ _ _ _ (by omega)), fun _ => ⟨?_, wu_cold U (okn_b hs1 (by decide) hk1).2.1⟩⟩
      show HV 12 (rq q) (rJ (hz_up K3 52 3 _)) _
      rw [rJ_u (a := 19) (b := 52) rfl]
      exact hv_cold V3 U _)
    · refine hz_callVs (pc := 18) C (as := []) (st := []) (ev_stopN X2 hs2 S2 hk2) (hz_new0 _ _) fyX8_stop fvX8_69 rfl dX8_houseItem_18 hT2 rfl rfl hA2 rfl rfl (Nat.le_of_ble_eq_true rfl) (by decide) (hz_cap0 _) ?_
      refine hz_if_ne (pc := 21) C (tgt := 26) dX8_houseItem_21 rfl (fun cq => absurd (by decide +kernel) cq) (fun _ => ?_)
      refine hz_iconst (pc := 24) C (v := nI 0) dX8_houseItem_24 (by decide +kernel) ?_
      exact hz_zretx C Z rfl (by decide +kernel) dX8_houseItem_25 (by
      have hR : pHouse t x u (nxe t x s) = (false, nxe t x (nxe t x s), u) := by unfold pHouse; rw [if_pos hk1, if_neg hk2]
      rw [hR]
      exact ⟨_, rfl, rfl, F2, S2, fun z => absurd (show false = true from z) (by decide)⟩)
  · refine hz_callVs (pc := 8) C (as := [.int (nI 0), .int (nI 9)]) (st := []) (ev_numN X1 hs1 S1 (by decide) hk1) (hz_new0 _ _) fyX8_number fvX8_65 rfl dX8_houseItem_8 hT2 rfl rfl hA2 rfl rfl (Nat.le_of_ble_eq_true rfl) (by decide) (hz_cap0 _) ?_
    refine hz_istore_n (pc := 11) C (ls' := [some (.ref 2), some (.ref 45), some (.int (-1 : Int32))]) dX8_houseItem_11 (Nat.le_of_ble_eq_true rfl) rfl ?_
    refine hz_iload_n (pc := 12) C dX8_houseItem_12 rfl ?_
    refine hz_iconst (pc := 13) C (v := (-1 : Int32)) dX8_houseItem_13 (by decide +kernel) ?_
    refine hz_ic_eq (pc := 14) C (tgt := 24) dX8_houseItem_14 rfl (fun _ => ?_) (fun cq => absurd rfl cq)
    refine hz_iconst (pc := 24) C (v := nI 0) dX8_houseItem_24 (by decide +kernel) ?_
    exact hz_zretx C Z rfl (by decide +kernel) dX8_houseItem_25 (by
      have hR : pHouse t x u (nxe t x s) = (false, nxe t x s, u) := by unfold pHouse; rw [if_neg hk1]
      rw [hR]
      exact ⟨_, rfl, rfl, F1, S1, fun z => absurd (show false = true from z) (by decide)⟩)
set_option maxHeartbeats 4000000 in
set_option maxRecDepth 100000 in
theorem ex_doorI {J : Nat → Nat → Int32} {L : Nat → Nat → Int64} {q : Nat → Nat → Nat} {t : Nat} {x : Nat → Nat} (X0 : tx J t x) {s : Nat} (hs : s ≤ t) (S0 : tS J t x s) {u : Nat → Nat} (V0 : DV q J u) (U : WU u) : hz_Ex mX8_doorItem TT NN (J, L, PP q) [.ref 2, .ref 45] (hz_PI L (PP q) (some (.int (bI (pDoor t x u (nxe t x s)).1))) (iP q t x J (pDoor t x u (nxe t x s)))) := by
  have hal := wu_al U
  have hv9 : ∀ {lo : Nat} {v : Int32} (p : Nat), p ≤ t → okn t x p lo v = true → vl t x p ≤ 99 := fun p hp h => by
    obtain ⟨h1, h2, -, -⟩ := okn_i.mp h
    exact vl_99 hp h1 h2
  refine hz_Ex.intro (ls := [some (.ref 2), some (.ref 45), none, none, none]) (by decide +kernel) rfl (Nat.le_of_ble_eq_true rfl) (fun X C Z => ?_)
  refine hz_aload_n (pc := 0) C dX8_doorItem_0 rfl ?_
  refine hz_callVxv (pc := 1) C (as := []) (st := []) (ex_step X0 (nxe_ok x hs).2.2.1 S0.2.2.1) fyX8_step fvX8_22 rfl dX8_doorItem_1 hT2 rfl rfl hA2 rfl rfl (Nat.le_of_ble_eq_true rfl) (by decide) (hz_cap0 _) (fun K1 h1 => ?_)
  have X1 := h1.1.tx X0
  have S1 := h1.2
  have hs1 : nxe t x s ≤ t := (nxe_ok x hs).2.2.1
  have F1 := (tF.rf J).c h1.1
  have V1 := h1.1.dv V0 U
  refine hz_aload_n (pc := 4) C dX8_doorItem_4 rfl ?_
  refine hz_iconst (pc := 5) C (v := nI 0) dX8_doorItem_5 (by decide +kernel) ?_
  refine hz_bipush (pc := 6) C (v := nI 7) dX8_doorItem_6 (by decide +kernel) ?_
  by_cases hk1 : okn t x (nxe t x s) 0 (nI 7) = true
  · refine hz_callVxs (pc := 8) C (as := [.int (nI 0), .int (nI 7)]) (st := []) (ex_numY X1 hs1 S1 hk1) fyX8_number fvX8_65 rfl dX8_doorItem_8 hT2 rfl rfl hA2 rfl rfl (Nat.le_of_ble_eq_true rfl) (by decide) (hz_cap0 _) (fun K2 h2 => ?_)
    have X2 := h2.1.tx X1
    have S2 := h2.2
    have hs2 : nxe t x (nxe t x s) ≤ t := (nxe_ok x hs1).2.2.1
    have F2 := F1.c h2.1
    have V2 := h2.1.dv V1 U
    refine hz_istore_n (pc := 11) C (ls' := [some (.ref 2), some (.ref 45), some (.int (nI (vl t x (nxe t x s)))), none, none]) dX8_doorItem_11 (Nat.le_of_ble_eq_true rfl) rfl ?_
    refine hz_iload_n (pc := 12) C dX8_doorItem_12 rfl ?_
    refine hz_iconst (pc := 13) C (v := (-1 : Int32)) dX8_doorItem_13 (by decide +kernel) ?_
    refine hz_ic_eq (pc := 14) C (tgt := 25) dX8_doorItem_14 rfl (fun cq => absurd cq (nm1 (Nat.lt_of_le_of_lt (hv9 _ (by assumption) (by assumption)) (by decide)))) (fun _ => ?_)
    refine hz_aload_n (pc := 17) C dX8_doorItem_17 rfl ?_
    refine hz_getI (pc := 18) C (v := vC t x (nxe t x (nxe t x s))) ffX8_82 dX8_doorItem_18 hT2 hA2 rfl S2.2.2.2 ?_
    refine hz_iload_n (pc := 21) C dX8_doorItem_21 rfl ?_
    refine hz_ic_ne (pc := 22) C (tgt := 27) dX8_doorItem_22 rfl (fun zzc1 => ?_) (fun zzc1 => ?_)
    · refine hz_aload_n (pc := 27) C dX8_doorItem_27 rfl ?_
      refine hz_iconst (pc := 28) C (v := nI 0) dX8_doorItem_28 (by decide +kernel) ?_
      refine hz_bipush (pc := 29) C (v := nI 7) dX8_doorItem_29 (by decide +kernel) ?_
      by_cases hk2 : okn t x (nxe t x (nxe t x s)) 0 (nI 7) = true
      · refine hz_callVxs (pc := 31) C (as := [.int (nI 0), .int (nI 7)]) (st := []) (ex_numY X2 hs2 S2 hk2) fyX8_number fvX8_65 rfl dX8_doorItem_31 hT2 rfl rfl hA2 rfl rfl (Nat.le_of_ble_eq_true rfl) (by decide) (hz_cap0 _) (fun K3 h3 => ?_)
        have X3 := h3.1.tx X2
        have S3 := h3.2
        have hs3 : nxe t x (nxe t x (nxe t x s)) ≤ t := (nxe_ok x hs2).2.2.1
        have F3 := F2.c h3.1
        have V3 := h3.1.dv V2 U
        refine hz_istore_n (pc := 34) C (ls' := [some (.ref 2), some (.ref 45), some (.int (nI (vl t x (nxe t x s)))), some (.int (nI (vl t x (nxe t x (nxe t x s))))), none]) dX8_doorItem_34 (Nat.le_of_ble_eq_true rfl) rfl ?_
        refine hz_iload_n (pc := 35) C dX8_doorItem_35 rfl ?_
        refine hz_iconst (pc := 36) C (v := (-1 : Int32)) dX8_doorItem_36 (by decide +kernel) ?_
        refine hz_ic_ne (pc := 37) C (tgt := 42) dX8_doorItem_37 rfl (fun _ => ?_) (fun cq => absurd cq (nm1 (Nat.lt_of_le_of_lt (hv9 _ (by assumption) (by assumption)) (by decide))))
        refine hz_aload_n (pc := 42) C dX8_doorItem_42 rfl ?_
        refine hz_iconst (pc := 43) C (v := nI 1) dX8_doorItem_43 (by decide +kernel) ?_
        refine hz_bipush (pc := 44) C (v := nI 9) dX8_doorItem_44 (by decide +kernel) ?_
        by_cases hk3 : okn t x (nxe t x (nxe t x (nxe t x s))) 1 (nI 9) = true
        · refine hz_callVxs (pc := 46) C (as := [.int (nI 1), .int (nI 9)]) (st := []) (ex_numY X3 hs3 S3 hk3) fyX8_number fvX8_65 rfl dX8_doorItem_46 hT2 rfl rfl hA2 rfl rfl (Nat.le_of_ble_eq_true rfl) (by decide) (hz_cap0 _) (fun K4 h4 => ?_)
          have X4 := h4.1.tx X3
          have S4 := h4.2
          have hs4 : nxe t x (nxe t x (nxe t x (nxe t x s))) ≤ t := (nxe_ok x hs3).2.2.1
          have F4 := F3.c h4.1
          have V4 := h4.1.dv V3 U
          refine hz_istore (pc := 49) C (ls' := [some (.ref 2), some (.ref 45), some (.int (nI (vl t x (nxe t x s)))), some (.int (nI (vl t x (nxe t x (nxe t x s))))), some (.int (nI (vl t x (nxe t x (nxe t x (nxe t x s))))))]) dX8_doorItem_49 (Nat.le_of_ble_eq_true rfl) rfl ?_
          refine hz_iload (pc := 51) C dX8_doorItem_51 rfl ?_
          refine hz_iconst (pc := 53) C (v := (-1 : Int32)) dX8_doorItem_53 (by decide +kernel) ?_
          refine hz_ic_eq (pc := 54) C (tgt := 64) dX8_doorItem_54 rfl (fun cq => absurd cq (nm1 (Nat.lt_of_le_of_lt (hv9 _ (by assumption) (by assumption)) (by decide)))) (fun _ => ?_)
          refine hz_aload_n (pc := 57) C dX8_doorItem_57 rfl ?_
          by_cases hk4 : kc t x (nxe t x (nxe t x (nxe t x (nxe t x s)))) = 3
          · refine hz_callVxs (pc := 58) C (as := []) (st := []) (ex_stopY X4 hs4 S4 hk4) fyX8_stop fvX8_69 rfl dX8_doorItem_58 hT2 rfl rfl hA2 rfl rfl (Nat.le_of_ble_eq_true rfl) (by decide) (hz_cap0 _) (fun K5 h5 => ?_)
            have X5 := h5.1.tx X4
            have S5 := h5.2
            have hs5 : nxe t x (nxe t x (nxe t x (nxe t x (nxe t x s)))) ≤ t := (nxe_ok x hs4).2.2.1
            have F5 := F4.c h5.1
            have V5 := h5.1.dv V4 U
            refine hz_if_ne (pc := 61) C (tgt := 66) dX8_doorItem_61 rfl (fun _ => ?_) (fun cq => absurd cq (by decide +kernel))
            refine hz_aload_n (pc := 66) C dX8_doorItem_66 rfl ?_
            refine hz_iload_n (pc := 67) C dX8_doorItem_67 rfl ?_
            refine hz_iload_n (pc := 68) C dX8_doorItem_68 rfl ?_
            refine hz_iload (pc := 69) C dX8_doorItem_69 rfl ?_
            refine hz_callVv (pc := 71) C (as := [.int (nI (vl t x (nxe t x s))), .int (nI (vl t x (nxe t x (nxe t x s)))), .int (nI (vl t x (nxe t x (nxe t x (nxe t x s)))))]) (st := []) (ev_setDoorD (Nat.lt_succ_of_le (okn_b hs1 (by decide) hk1).2.1) (Nat.lt_succ_of_le (okn_b hs2 (by decide) hk2).2.1) _) (hz_new0 _ _) fyX2_setDoor fvX8_85 rfl dX8_doorItem_71 hT45 rfl rfl hA45 rfl rfl (Nat.le_of_ble_eq_true rfl) (by decide) (hz_cap0 _) ?_
            refine hz_iconst (pc := 74) C (v := nI 1) dX8_doorItem_74 (by decide +kernel) ?_
            exact hz_zretx C Z rfl (by decide +kernel) dX8_doorItem_75 (by
      have hR : pDoor t x u (nxe t x s) = (true, nxe t x (nxe t x (nxe t x (nxe t x (nxe t x s)))), va_up (va_up u (8 * vl t x (nxe t x s) + vl t x (nxe t x (nxe t x s))) (vl t x (nxe t x (nxe t x (nxe t x s))))) (8 * vl t x (nxe t x (nxe t x s)) + vl t x (nxe t x s)) (vl t x (nxe t x (nxe t x (nxe t x s))))) := by unfold pDoor; rw [if_pos hk1, if_neg zzc1, if_pos hk2, if_pos hk3, if_pos hk4]
      rw [hR]
      refine ⟨_, rfl, rfl, F5.tr ⟨fun a h1 h2 => (hz_up_ne _ _ _ _ (by omega)).trans ((hz_up_ne _ _ _ _ (by omega)).trans ((hz_up_ne _ _ _ _ (by omega)).trans (rfl))), congrFun ((hz_up_ne _ _ _ _ (by omega)).trans ((hz_up_ne _ _ _ _ (by omega)).trans ((hz_up_ne _ _ _ _ (by omega)).trans (rfl)))) 1⟩, S5.cong ((hz_up_ne _ _ _ _ (by omega)).trans ((hz_up_ne _ _ _ _ (by omega)).trans ((hz_up_ne _ _ _ _ (by omega)).trans (rfl)))), fun _ => ⟨?_, wu_door U (Nat.lt_succ_of_le (okn_b hs1 (by decide) hk1).2.1) (Nat.lt_succ_of_le (okn_b hs2 (by decide) hk2).2.1) (fun e => zzc1 ((okn_v hk2).trans (congrArg nI e.symm))) (okn_b hs3 (by decide) hk3).2.1⟩⟩
      refine Eq.mp (congrArg (fun z => HV 12 (rq q) z _) (?_ : _ = rJ _)) (hv_door V5 U (Nat.lt_succ_of_le (okn_b hs1 (by decide) hk1).2.1) (Nat.lt_succ_of_le (okn_b hs2 (by decide) hk2).2.1) (okn_b hs3 (by decide) hk3).1)
      rw [rJ_u (a := 12) (b := 45) rfl, rJ_u (a := 13) (b := 46) rfl, rJ_u (a := 13) (b := 46) rfl])
          · refine hz_callVs (pc := 58) C (as := []) (st := []) (ev_stopN X4 hs4 S4 hk4) (hz_new0 _ _) fyX8_stop fvX8_69 rfl dX8_doorItem_58 hT2 rfl rfl hA2 rfl rfl (Nat.le_of_ble_eq_true rfl) (by decide) (hz_cap0 _) ?_
            refine hz_if_ne (pc := 61) C (tgt := 66) dX8_doorItem_61 rfl (fun cq => absurd (by decide +kernel) cq) (fun _ => ?_)
            refine hz_iconst (pc := 64) C (v := nI 0) dX8_doorItem_64 (by decide +kernel) ?_
            exact hz_zretx C Z rfl (by decide +kernel) dX8_doorItem_65 (by
      have hR : pDoor t x u (nxe t x s) = (false, nxe t x (nxe t x (nxe t x (nxe t x s))), u) := by unfold pDoor; rw [if_pos hk1, if_neg zzc1, if_pos hk2, if_pos hk3, if_neg hk4]
      rw [hR]
      exact ⟨_, rfl, rfl, F4, S4, fun z => absurd (show false = true from z) (by decide)⟩)
        · refine hz_callVs (pc := 46) C (as := [.int (nI 1), .int (nI 9)]) (st := []) (ev_numN X3 hs3 S3 (by decide) hk3) (hz_new0 _ _) fyX8_number fvX8_65 rfl dX8_doorItem_46 hT2 rfl rfl hA2 rfl rfl (Nat.le_of_ble_eq_true rfl) (by decide) (hz_cap0 _) ?_
          refine hz_istore (pc := 49) C (ls' := [some (.ref 2), some (.ref 45), some (.int (nI (vl t x (nxe t x s)))), some (.int (nI (vl t x (nxe t x (nxe t x s))))), some (.int (-1 : Int32))]) dX8_doorItem_49 (Nat.le_of_ble_eq_true rfl) rfl ?_
          refine hz_iload (pc := 51) C dX8_doorItem_51 rfl ?_
          refine hz_iconst (pc := 53) C (v := (-1 : Int32)) dX8_doorItem_53 (by decide +kernel) ?_
          refine hz_ic_eq (pc := 54) C (tgt := 64) dX8_doorItem_54 rfl (fun _ => ?_) (fun cq => absurd rfl cq)
          refine hz_iconst (pc := 64) C (v := nI 0) dX8_doorItem_64 (by decide +kernel) ?_
          exact hz_zretx C Z rfl (by decide +kernel) dX8_doorItem_65 (by
      have hR : pDoor t x u (nxe t x s) = (false, nxe t x (nxe t x (nxe t x s)), u) := by unfold pDoor; rw [if_pos hk1, if_neg zzc1, if_pos hk2, if_neg hk3]
      rw [hR]
      exact ⟨_, rfl, rfl, F3, S3, fun z => absurd (show false = true from z) (by decide)⟩)
      · refine hz_callVs (pc := 31) C (as := [.int (nI 0), .int (nI 7)]) (st := []) (ev_numN X2 hs2 S2 (by decide) hk2) (hz_new0 _ _) fyX8_number fvX8_65 rfl dX8_doorItem_31 hT2 rfl rfl hA2 rfl rfl (Nat.le_of_ble_eq_true rfl) (by decide) (hz_cap0 _) ?_
        refine hz_istore_n (pc := 34) C (ls' := [some (.ref 2), some (.ref 45), some (.int (nI (vl t x (nxe t x s)))), some (.int (-1 : Int32)), none]) dX8_doorItem_34 (Nat.le_of_ble_eq_true rfl) rfl ?_
        refine hz_iload_n (pc := 35) C dX8_doorItem_35 rfl ?_
        refine hz_iconst (pc := 36) C (v := (-1 : Int32)) dX8_doorItem_36 (by decide +kernel) ?_
        refine hz_ic_ne (pc := 37) C (tgt := 42) dX8_doorItem_37 rfl (fun cq => absurd rfl cq) (fun _ => ?_)
        refine hz_iconst (pc := 40) C (v := nI 0) dX8_doorItem_40 (by decide +kernel) ?_
        exact hz_zretx C Z rfl (by decide +kernel) dX8_doorItem_41 (by
      have hR : pDoor t x u (nxe t x s) = (false, nxe t x (nxe t x s), u) := by unfold pDoor; rw [if_pos hk1, if_neg zzc1, if_neg hk2]
      rw [hR]
      exact ⟨_, rfl, rfl, F2, S2, fun z => absurd (show false = true from z) (by decide)⟩)
    · refine hz_iconst (pc := 25) C (v := nI 0) dX8_doorItem_25 (by decide +kernel) ?_
      exact hz_zretx C Z rfl (by decide +kernel) dX8_doorItem_26 (by
      have hR : pDoor t x u (nxe t x s) = (false, nxe t x (nxe t x s), u) := by unfold pDoor; rw [if_pos hk1, if_pos zzc1]
      rw [hR]
      exact ⟨_, rfl, rfl, F2, S2, fun z => absurd (show false = true from z) (by decide)⟩)
  · refine hz_callVs (pc := 8) C (as := [.int (nI 0), .int (nI 7)]) (st := []) (ev_numN X1 hs1 S1 (by decide) hk1) (hz_new0 _ _) fyX8_number fvX8_65 rfl dX8_doorItem_8 hT2 rfl rfl hA2 rfl rfl (Nat.le_of_ble_eq_true rfl) (by decide) (hz_cap0 _) ?_
    refine hz_istore_n (pc := 11) C (ls' := [some (.ref 2), some (.ref 45), some (.int (-1 : Int32)), none, none]) dX8_doorItem_11 (Nat.le_of_ble_eq_true rfl) rfl ?_
    refine hz_iload_n (pc := 12) C dX8_doorItem_12 rfl ?_
    refine hz_iconst (pc := 13) C (v := (-1 : Int32)) dX8_doorItem_13 (by decide +kernel) ?_
    refine hz_ic_eq (pc := 14) C (tgt := 25) dX8_doorItem_14 rfl (fun _ => ?_) (fun cq => absurd rfl cq)
    refine hz_iconst (pc := 25) C (v := nI 0) dX8_doorItem_25 (by decide +kernel) ?_
    exact hz_zretx C Z rfl (by decide +kernel) dX8_doorItem_26 (by
      have hR : pDoor t x u (nxe t x s) = (false, nxe t x s, u) := by unfold pDoor; rw [if_neg hk1]
      rw [hR]
      exact ⟨_, rfl, rfl, F1, S1, fun z => absurd (show false = true from z) (by decide)⟩)
set_option maxHeartbeats 4000000 in
set_option maxRecDepth 100000 in
theorem ex_alarmI {J : Nat → Nat → Int32} {L : Nat → Nat → Int64} {q : Nat → Nat → Nat} {t : Nat} {x : Nat → Nat} (X0 : tx J t x) {s : Nat} (hs : s ≤ t) (S0 : tS J t x s) {u : Nat → Nat} (V0 : DV q J u) (U : WU u) (h6 : u 64 < 6) : hz_Ex mX8_alarmItem TT NN (J, L, PP q) [.ref 2, .ref 45] (hz_PI L (PP q) (some (.int (bI (pAlarm t x u (nxe t x s)).1))) (iP q t x J (pAlarm t x u (nxe t x s)))) := by
  have hal := wu_al U
  have hv9 : ∀ {lo : Nat} {v : Int32} (p : Nat), p ≤ t → okn t x p lo v = true → vl t x p ≤ 99 := fun p hp h => by
    obtain ⟨h1, h2, -, -⟩ := okn_i.mp h
    exact vl_99 hp h1 h2
  refine hz_Ex.intro (ls := [some (.ref 2), some (.ref 45), none, none, none]) (by decide +kernel) rfl (Nat.le_of_ble_eq_true rfl) (fun X C Z => ?_)
  refine hz_aload_n (pc := 0) C dX8_alarmItem_0 rfl ?_
  refine hz_callVxv (pc := 1) C (as := []) (st := []) (ex_step X0 (nxe_ok x hs).2.2.1 S0.2.2.1) fyX8_step fvX8_22 rfl dX8_alarmItem_1 hT2 rfl rfl hA2 rfl rfl (Nat.le_of_ble_eq_true rfl) (by decide) (hz_cap0 _) (fun K1 h1 => ?_)
  have X1 := h1.1.tx X0
  have S1 := h1.2
  have hs1 : nxe t x s ≤ t := (nxe_ok x hs).2.2.1
  have F1 := (tF.rf J).c h1.1
  have V1 := h1.1.dv V0 U
  refine hz_aload_n (pc := 4) C dX8_alarmItem_4 rfl ?_
  refine hz_iconst (pc := 5) C (v := nI 0) dX8_alarmItem_5 (by decide +kernel) ?_
  refine hz_iconst (pc := 6) C (v := nI 5) dX8_alarmItem_6 (by decide +kernel) ?_
  by_cases hk1 : okn t x (nxe t x s) 0 (nI 5) = true
  · refine hz_callVxs (pc := 7) C (as := [.int (nI 0), .int (nI 5)]) (st := []) (ex_numY X1 hs1 S1 hk1) fyX8_number fvX8_65 rfl dX8_alarmItem_7 hT2 rfl rfl hA2 rfl rfl (Nat.le_of_ble_eq_true rfl) (by decide) (hz_cap0 _) (fun K2 h2 => ?_)
    have X2 := h2.1.tx X1
    have S2 := h2.2
    have hs2 : nxe t x (nxe t x s) ≤ t := (nxe_ok x hs1).2.2.1
    have F2 := F1.c h2.1
    have V2 := h2.1.dv V1 U
    refine hz_istore_n (pc := 10) C (ls' := [some (.ref 2), some (.ref 45), some (.int (nI (vl t x (nxe t x s)))), none, none]) dX8_alarmItem_10 (Nat.le_of_ble_eq_true rfl) rfl ?_
    refine hz_iload_n (pc := 11) C dX8_alarmItem_11 rfl ?_
    refine hz_iconst (pc := 12) C (v := (-1 : Int32)) dX8_alarmItem_12 (by decide +kernel) ?_
    refine hz_ic_ne (pc := 13) C (tgt := 18) dX8_alarmItem_13 rfl (fun _ => ?_) (fun cq => absurd cq (nm1 (Nat.lt_of_le_of_lt (hv9 _ (by assumption) (by assumption)) (by decide))))
    refine hz_aload_n (pc := 18) C dX8_alarmItem_18 rfl ?_
    refine hz_iconst (pc := 19) C (v := nI 0) dX8_alarmItem_19 (by decide +kernel) ?_
    refine hz_bipush (pc := 20) C (v := nI 7) dX8_alarmItem_20 (by decide +kernel) ?_
    by_cases hk2 : okn t x (nxe t x (nxe t x s)) 0 (nI 7) = true
    · refine hz_callVxs (pc := 22) C (as := [.int (nI 0), .int (nI 7)]) (st := []) (ex_numY X2 hs2 S2 hk2) fyX8_number fvX8_65 rfl dX8_alarmItem_22 hT2 rfl rfl hA2 rfl rfl (Nat.le_of_ble_eq_true rfl) (by decide) (hz_cap0 _) (fun K3 h3 => ?_)
      have X3 := h3.1.tx X2
      have S3 := h3.2
      have hs3 : nxe t x (nxe t x (nxe t x s)) ≤ t := (nxe_ok x hs2).2.2.1
      have F3 := F2.c h3.1
      have V3 := h3.1.dv V2 U
      refine hz_istore_n (pc := 25) C (ls' := [some (.ref 2), some (.ref 45), some (.int (nI (vl t x (nxe t x s)))), some (.int (nI (vl t x (nxe t x (nxe t x s))))), none]) dX8_alarmItem_25 (Nat.le_of_ble_eq_true rfl) rfl ?_
      refine hz_iload_n (pc := 26) C dX8_alarmItem_26 rfl ?_
      refine hz_iconst (pc := 27) C (v := (-1 : Int32)) dX8_alarmItem_27 (by decide +kernel) ?_
      refine hz_ic_ne (pc := 28) C (tgt := 33) dX8_alarmItem_28 rfl (fun _ => ?_) (fun cq => absurd cq (nm1 (Nat.lt_of_le_of_lt (hv9 _ (by assumption) (by assumption)) (by decide))))
      refine hz_aload_n (pc := 33) C dX8_alarmItem_33 rfl ?_
      refine hz_iconst (pc := 34) C (v := nI 0) dX8_alarmItem_34 (by decide +kernel) ?_
      refine hz_bipush (pc := 35) C (v := nI 99) dX8_alarmItem_35 (by decide +kernel) ?_
      by_cases hk3 : okn t x (nxe t x (nxe t x (nxe t x s))) 0 (nI 99) = true
      · refine hz_callVxs (pc := 37) C (as := [.int (nI 0), .int (nI 99)]) (st := []) (ex_numY X3 hs3 S3 hk3) fyX8_number fvX8_65 rfl dX8_alarmItem_37 hT2 rfl rfl hA2 rfl rfl (Nat.le_of_ble_eq_true rfl) (by decide) (hz_cap0 _) (fun K4 h4 => ?_)
        have X4 := h4.1.tx X3
        have S4 := h4.2
        have hs4 : nxe t x (nxe t x (nxe t x (nxe t x s))) ≤ t := (nxe_ok x hs3).2.2.1
        have F4 := F3.c h4.1
        have V4 := h4.1.dv V3 U
        refine hz_istore (pc := 40) C (ls' := [some (.ref 2), some (.ref 45), some (.int (nI (vl t x (nxe t x s)))), some (.int (nI (vl t x (nxe t x (nxe t x s))))), some (.int (nI (vl t x (nxe t x (nxe t x (nxe t x s))))))]) dX8_alarmItem_40 (Nat.le_of_ble_eq_true rfl) rfl ?_
        refine hz_iload (pc := 42) C dX8_alarmItem_42 rfl ?_
        refine hz_iconst (pc := 44) C (v := (-1 : Int32)) dX8_alarmItem_44 (by decide +kernel) ?_
        refine hz_ic_eq (pc := 45) C (tgt := 55) dX8_alarmItem_45 rfl (fun cq => absurd cq (nm1 (Nat.lt_of_le_of_lt (hv9 _ (by assumption) (by assumption)) (by decide)))) (fun _ => ?_)
        refine hz_aload_n (pc := 48) C dX8_alarmItem_48 rfl ?_
        by_cases hk4 : kc t x (nxe t x (nxe t x (nxe t x (nxe t x s)))) = 3
        · refine hz_callVxs (pc := 49) C (as := []) (st := []) (ex_stopY X4 hs4 S4 hk4) fyX8_stop fvX8_69 rfl dX8_alarmItem_49 hT2 rfl rfl hA2 rfl rfl (Nat.le_of_ble_eq_true rfl) (by decide) (hz_cap0 _) (fun K5 h5 => ?_)
          have X5 := h5.1.tx X4
          have S5 := h5.2
          have hs5 : nxe t x (nxe t x (nxe t x (nxe t x (nxe t x s)))) ≤ t := (nxe_ok x hs4).2.2.1
          have F5 := F4.c h5.1
          have V5 := h5.1.dv V4 U
          refine hz_if_ne (pc := 52) C (tgt := 57) dX8_alarmItem_52 rfl (fun _ => ?_) (fun cq => absurd cq (by decide +kernel))
          refine hz_aload_n (pc := 57) C dX8_alarmItem_57 rfl ?_
          refine hz_iload_n (pc := 58) C dX8_alarmItem_58 rfl ?_
          refine hz_iload_n (pc := 59) C dX8_alarmItem_59 rfl ?_
          refine hz_iload (pc := 60) C dX8_alarmItem_60 rfl ?_
          refine hz_callVv (pc := 62) C (as := [.int (nI (vl t x (nxe t x s))), .int (nI (vl t x (nxe t x (nxe t x s)))), .int (nI (vl t x (nxe t x (nxe t x (nxe t x s)))))]) (st := []) (ev_addAlarmD (dv_al V5) h6 _ _ _) (hz_new0 _ _) fyX2_addAlarm fvX8_89 rfl dX8_alarmItem_62 hT45 rfl rfl hA45 rfl rfl (Nat.le_of_ble_eq_true rfl) (by decide) (hz_cap0 _) ?_
          refine hz_iconst (pc := 65) C (v := nI 1) dX8_alarmItem_65 (by decide +kernel) ?_
          exact hz_zretx C Z rfl (by decide +kernel) dX8_alarmItem_66 (by
      have hR : pAlarm t x u (nxe t x s) = (true, nxe t x (nxe t x (nxe t x (nxe t x (nxe t x s)))), alU u (vl t x (nxe t x s)) (vl t x (nxe t x (nxe t x s))) (vl t x (nxe t x (nxe t x (nxe t x s))))) := by unfold pAlarm; rw [if_pos hk1, if_pos hk2, if_pos hk3, if_pos hk4]
      rw [hR]
      refine ⟨_, rfl, rfl, F5.tr ⟨fun a h1 h2 => (hz_up_ne _ _ _ _ (by omega)).trans ((hz_up_ne _ _ _ _ (by omega)).trans ((hz_up_ne _ _ _ _ (by omega)).trans ((hz_up_ne _ _ _ _ (by omega)).trans ((hz_up_ne _ _ _ _ (by omega)).trans (rfl))))), congrFun ((hz_up_ne _ _ _ _ (by omega)).trans ((hz_up_ne _ _ _ _ (by omega)).trans ((hz_up_ne _ _ _ _ (by omega)).trans ((hz_up_ne _ _ _ _ (by omega)).trans ((hz_up_ne _ _ _ _ (by omega)).trans (rfl)))))) 1⟩, S5.cong ((hz_up_ne _ _ _ _ (by omega)).trans ((hz_up_ne _ _ _ _ (by omega)).trans ((hz_up_ne _ _ _ _ (by omega)).trans ((hz_up_ne _ _ _ _ (by omega)).trans ((hz_up_ne _ _ _ _ (by omega)).trans (rfl)))))), fun _ => ⟨?_, wu_alarm U h6 (Nat.lt_succ_of_le (okn_b hs1 (by decide) hk1).2.1) (Nat.lt_succ_of_le (okn_b hs2 (by decide) hk2).2.1) (okn_b hs3 (by decide) hk3).2.2⟩⟩
      refine Eq.mp (congrArg (fun z => HV 12 (rq q) z _) (?_ : _ = rJ _)) (hv_alarm V5 U h6 _ _ _)
      rw [rJ_u (a := 12) (b := 45) rfl, rJ_u (a := 12) (b := 45) rfl, rJ_u (a := 20) (b := 53) rfl, rJ_u (a := 16) (b := 49) rfl, rJ_u (a := 15) (b := 48) rfl])
        · refine hz_callVs (pc := 49) C (as := []) (st := []) (ev_stopN X4 hs4 S4 hk4) (hz_new0 _ _) fyX8_stop fvX8_69 rfl dX8_alarmItem_49 hT2 rfl rfl hA2 rfl rfl (Nat.le_of_ble_eq_true rfl) (by decide) (hz_cap0 _) ?_
          refine hz_if_ne (pc := 52) C (tgt := 57) dX8_alarmItem_52 rfl (fun cq => absurd (by decide +kernel) cq) (fun _ => ?_)
          refine hz_iconst (pc := 55) C (v := nI 0) dX8_alarmItem_55 (by decide +kernel) ?_
          exact hz_zretx C Z rfl (by decide +kernel) dX8_alarmItem_56 (by
      have hR : pAlarm t x u (nxe t x s) = (false, nxe t x (nxe t x (nxe t x (nxe t x s))), u) := by unfold pAlarm; rw [if_pos hk1, if_pos hk2, if_pos hk3, if_neg hk4]
      rw [hR]
      exact ⟨_, rfl, rfl, F4, S4, fun z => absurd (show false = true from z) (by decide)⟩)
      · refine hz_callVs (pc := 37) C (as := [.int (nI 0), .int (nI 99)]) (st := []) (ev_numN X3 hs3 S3 (by decide) hk3) (hz_new0 _ _) fyX8_number fvX8_65 rfl dX8_alarmItem_37 hT2 rfl rfl hA2 rfl rfl (Nat.le_of_ble_eq_true rfl) (by decide) (hz_cap0 _) ?_
        refine hz_istore (pc := 40) C (ls' := [some (.ref 2), some (.ref 45), some (.int (nI (vl t x (nxe t x s)))), some (.int (nI (vl t x (nxe t x (nxe t x s))))), some (.int (-1 : Int32))]) dX8_alarmItem_40 (Nat.le_of_ble_eq_true rfl) rfl ?_
        refine hz_iload (pc := 42) C dX8_alarmItem_42 rfl ?_
        refine hz_iconst (pc := 44) C (v := (-1 : Int32)) dX8_alarmItem_44 (by decide +kernel) ?_
        refine hz_ic_eq (pc := 45) C (tgt := 55) dX8_alarmItem_45 rfl (fun _ => ?_) (fun cq => absurd rfl cq)
        refine hz_iconst (pc := 55) C (v := nI 0) dX8_alarmItem_55 (by decide +kernel) ?_
        exact hz_zretx C Z rfl (by decide +kernel) dX8_alarmItem_56 (by
      have hR : pAlarm t x u (nxe t x s) = (false, nxe t x (nxe t x (nxe t x s)), u) := by unfold pAlarm; rw [if_pos hk1, if_pos hk2, if_neg hk3]
      rw [hR]
      exact ⟨_, rfl, rfl, F3, S3, fun z => absurd (show false = true from z) (by decide)⟩)
    · refine hz_callVs (pc := 22) C (as := [.int (nI 0), .int (nI 7)]) (st := []) (ev_numN X2 hs2 S2 (by decide) hk2) (hz_new0 _ _) fyX8_number fvX8_65 rfl dX8_alarmItem_22 hT2 rfl rfl hA2 rfl rfl (Nat.le_of_ble_eq_true rfl) (by decide) (hz_cap0 _) ?_
      refine hz_istore_n (pc := 25) C (ls' := [some (.ref 2), some (.ref 45), some (.int (nI (vl t x (nxe t x s)))), some (.int (-1 : Int32)), none]) dX8_alarmItem_25 (Nat.le_of_ble_eq_true rfl) rfl ?_
      refine hz_iload_n (pc := 26) C dX8_alarmItem_26 rfl ?_
      refine hz_iconst (pc := 27) C (v := (-1 : Int32)) dX8_alarmItem_27 (by decide +kernel) ?_
      refine hz_ic_ne (pc := 28) C (tgt := 33) dX8_alarmItem_28 rfl (fun cq => absurd rfl cq) (fun _ => ?_)
      refine hz_iconst (pc := 31) C (v := nI 0) dX8_alarmItem_31 (by decide +kernel) ?_
      exact hz_zretx C Z rfl (by decide +kernel) dX8_alarmItem_32 (by
      have hR : pAlarm t x u (nxe t x s) = (false, nxe t x (nxe t x s), u) := by unfold pAlarm; rw [if_pos hk1, if_neg hk2]
      rw [hR]
      exact ⟨_, rfl, rfl, F2, S2, fun z => absurd (show false = true from z) (by decide)⟩)
  · refine hz_callVs (pc := 7) C (as := [.int (nI 0), .int (nI 5)]) (st := []) (ev_numN X1 hs1 S1 (by decide) hk1) (hz_new0 _ _) fyX8_number fvX8_65 rfl dX8_alarmItem_7 hT2 rfl rfl hA2 rfl rfl (Nat.le_of_ble_eq_true rfl) (by decide) (hz_cap0 _) ?_
    refine hz_istore_n (pc := 10) C (ls' := [some (.ref 2), some (.ref 45), some (.int (-1 : Int32)), none, none]) dX8_alarmItem_10 (Nat.le_of_ble_eq_true rfl) rfl ?_
    refine hz_iload_n (pc := 11) C dX8_alarmItem_11 rfl ?_
    refine hz_iconst (pc := 12) C (v := (-1 : Int32)) dX8_alarmItem_12 (by decide +kernel) ?_
    refine hz_ic_ne (pc := 13) C (tgt := 18) dX8_alarmItem_13 rfl (fun cq => absurd rfl cq) (fun _ => ?_)
    refine hz_iconst (pc := 16) C (v := nI 0) dX8_alarmItem_16 (by decide +kernel) ?_
    exact hz_zretx C Z rfl (by decide +kernel) dX8_alarmItem_17 (by
      have hR : pAlarm t x u (nxe t x s) = (false, nxe t x s, u) := by unfold pAlarm; rw [if_neg hk1]
      rw [hR]
      exact ⟨_, rfl, rfl, F1, S1, fun z => absurd (show false = true from z) (by decide)⟩)
theorem okn_d {t : Nat} {x : Nat → Nat} {s n : Nat} (hs : s ≤ t) (hn : n ≤ 6) (h : okn t x s 0 (nI n - nI 1) = true) : vl t x s < n := by
  obtain ⟨h1, h2, h3, h4⟩ := okn_i.mp h
  have hv := vl_99 hs h1 h2
  have hd : ∀ n, n < 7 → ∀ v, v < 100 → ¬ (nI n - nI 1) < nI v → v < n := by decide +kernel
  exact hd n (by omega) _ (by omega) h4
theorem ev_setDownD {J : Nat → Nat → Int32} {L : Nat → Nat → Int64} {q : Nat → Nat → Nat} {u : Nat → Nat} (V : DV q J u) (U : WU u) {k x : Nat} (hk : k < 6) (hx : x < 2) : hz_Ev mX3_setDown TT NN (J, L, PP q) [.ref 52, .int (nI k), .int (nI x)] 0 0 none TT NN (hz_up J 52 4 (nI (dnb (u 93) k x)), L, PP q) := by
  have h := ev_setDown (m := 52) (I := J) (L := L) (q := q) hT52 hA52 (nI k) (nI x)
  rw [dv_dn V, (down_v (wu_dn U) hk hx).1] at h
  exact h
set_option maxHeartbeats 4000000 in
set_option maxRecDepth 100000 in
theorem ex_downI {J : Nat → Nat → Int32} {L : Nat → Nat → Int64} {q : Nat → Nat → Nat} {t : Nat} {x : Nat → Nat} (X0 : tx J t x) {s : Nat} (hs : s ≤ t) (S0 : tS J t x s) {u : Nat → Nat} (V0 : DV q J u) (U : WU u) : hz_Ex mX8_downItem TT NN (J, L, PP q) [.ref 2, .ref 45] (hz_PI L (PP q) (some (.int (bI (pDown t x u (nxe t x s)).1))) (iP q t x J (pDown t x u (nxe t x s)))) := by
  have hal := wu_al U
  have hv9 : ∀ {lo : Nat} {v : Int32} (p : Nat), p ≤ t → okn t x p lo v = true → vl t x p ≤ 99 := fun p hp h => by
    obtain ⟨h1, h2, -, -⟩ := okn_i.mp h
    exact vl_99 hp h1 h2
  refine hz_Ex.intro (ls := [some (.ref 2), some (.ref 45), none]) (by decide +kernel) rfl (Nat.le_of_ble_eq_true rfl) (fun X C Z => ?_)
  refine hz_aload_n (pc := 0) C dX8_downItem_0 rfl ?_
  refine hz_callVxv (pc := 1) C (as := []) (st := []) (ex_step X0 (nxe_ok x hs).2.2.1 S0.2.2.1) fyX8_step fvX8_22 rfl dX8_downItem_1 hT2 rfl rfl hA2 rfl rfl (Nat.le_of_ble_eq_true rfl) (by decide) (hz_cap0 _) (fun K1 h1 => ?_)
  have X1 := h1.1.tx X0
  have S1 := h1.2
  have hs1 : nxe t x s ≤ t := (nxe_ok x hs).2.2.1
  have F1 := (tF.rf J).c h1.1
  have V1 := h1.1.dv V0 U
  refine hz_aload_n (pc := 4) C dX8_downItem_4 rfl ?_
  refine hz_iconst (pc := 5) C (v := nI 0) dX8_downItem_5 (by decide +kernel) ?_
  refine hz_aload_n (pc := 6) C dX8_downItem_6 rfl ?_
  refine hz_getI (pc := 7) C (v := nI (u 64)) ffX8_52 dX8_downItem_7 hT45 hA45 rfl (dv_al V1) ?_
  refine hz_iconst (pc := 10) C (v := nI 1) dX8_downItem_10 (by decide +kernel) ?_
  refine hz_isub (pc := 11) C (v := nI (u 64) - nI 1) dX8_downItem_11 rfl ?_
  by_cases hk1 : okn t x (nxe t x s) 0 (nI (u 64) - nI 1) = true
  · refine hz_callVxs (pc := 12) C (as := [.int (nI 0), .int (nI (u 64) - nI 1)]) (st := []) (ex_numY X1 hs1 S1 hk1) fyX8_number fvX8_65 rfl dX8_downItem_12 hT2 rfl rfl hA2 rfl rfl (Nat.le_of_ble_eq_true rfl) (by decide) (hz_cap0 _) (fun K2 h2 => ?_)
    have X2 := h2.1.tx X1
    have S2 := h2.2
    have hs2 : nxe t x (nxe t x s) ≤ t := (nxe_ok x hs1).2.2.1
    have F2 := F1.c h2.1
    have V2 := h2.1.dv V1 U
    refine hz_istore_n (pc := 15) C (ls' := [some (.ref 2), some (.ref 45), some (.int (nI (vl t x (nxe t x s))))]) dX8_downItem_15 (Nat.le_of_ble_eq_true rfl) rfl ?_
    refine hz_iload_n (pc := 16) C dX8_downItem_16 rfl ?_
    refine hz_iconst (pc := 17) C (v := (-1 : Int32)) dX8_downItem_17 (by decide +kernel) ?_
    refine hz_ic_eq (pc := 18) C (tgt := 28) dX8_downItem_18 rfl (fun cq => absurd cq (nm1 (Nat.lt_of_le_of_lt (hv9 _ (by assumption) (by assumption)) (by decide)))) (fun _ => ?_)
    refine hz_aload_n (pc := 21) C dX8_downItem_21 rfl ?_
    by_cases hk2 : kc t x (nxe t x (nxe t x s)) = 3
    · refine hz_callVxs (pc := 22) C (as := []) (st := []) (ex_stopY X2 hs2 S2 hk2) fyX8_stop fvX8_69 rfl dX8_downItem_22 hT2 rfl rfl hA2 rfl rfl (Nat.le_of_ble_eq_true rfl) (by decide) (hz_cap0 _) (fun K3 h3 => ?_)
      have X3 := h3.1.tx X2
      have S3 := h3.2
      have hs3 : nxe t x (nxe t x (nxe t x s)) ≤ t := (nxe_ok x hs2).2.2.1
      have F3 := F2.c h3.1
      have V3 := h3.1.dv V2 U
      refine hz_if_ne (pc := 25) C (tgt := 30) dX8_downItem_25 rfl (fun _ => ?_) (fun cq => absurd cq (by decide +kernel))
      refine hz_aload_n (pc := 30) C dX8_downItem_30 rfl ?_
      refine hz_getP (pc := 31) C (v := 52) ffX8_73 dX8_downItem_31 hT45 hA45 rfl (hP45_7 q) (by decide) ?_
      refine hz_iload_n (pc := 34) C dX8_downItem_34 rfl ?_
      refine hz_iconst (pc := 35) C (v := nI 1) dX8_downItem_35 (by decide +kernel) ?_
      refine hz_callVv (pc := 36) C (as := [.int (nI (vl t x (nxe t x s))), .int (nI 1)]) (st := []) (ev_setDownD V3 U (Nat.lt_of_lt_of_le (okn_d hs1 hal hk1) hal) (by decide)) (hz_new0 _ _) fyX3_setDown fvX8_92 rfl dX8_downItem_36 hT52 rfl rfl hA52 rfl rfl (Nat.le_of_ble_eq_true rfl) (by decide) (hz_cap0 _) ?_
      refine hz_iconst (pc := 39) C (v := nI 1) dX8_downItem_39 (by decide +kernel) ?_
      exact hz_zretx C Z rfl (by decide +kernel) dX8_downItem_40 (by
      have hR : pDown t x u (nxe t x s) = (true, nxe t x (nxe t x (nxe t x s)), va_up u 93 (dnb (u 93) (vl t x (nxe t x s)) 1)) := by unfold pDown; rw [if_pos hk1, if_pos hk2]
      rw [hR]
      refine ⟨_, rfl, rfl, F3.tr ⟨fun a h1 h2 => (hz_up_ne _ _ _ _ (by omega)).trans (rfl), congrFun ((hz_up_ne _ _ _ _ (by omega)).trans (rfl)) 1⟩, S3.cong ((hz_up_ne _ _ _ _ (by omega)).trans (rfl)), fun _ => ⟨?_, wu_down U (down_v (wu_dn U) (Nat.lt_of_lt_of_le (okn_d hs1 hal hk1) hal) (x := 1) (by decide)).2⟩⟩
      refine Eq.mp (congrArg (fun z => HV 12 (rq q) z _) (?_ : _ = rJ _)) (hv_down V3 U _)
      rw [rJ_u (a := 19) (b := 52) rfl])
    · refine hz_callVs (pc := 22) C (as := []) (st := []) (ev_stopN X2 hs2 S2 hk2) (hz_new0 _ _) fyX8_stop fvX8_69 rfl dX8_downItem_22 hT2 rfl rfl hA2 rfl rfl (Nat.le_of_ble_eq_true rfl) (by decide) (hz_cap0 _) ?_
      refine hz_if_ne (pc := 25) C (tgt := 30) dX8_downItem_25 rfl (fun cq => absurd (by decide +kernel) cq) (fun _ => ?_)
      refine hz_iconst (pc := 28) C (v := nI 0) dX8_downItem_28 (by decide +kernel) ?_
      exact hz_zretx C Z rfl (by decide +kernel) dX8_downItem_29 (by
      have hR : pDown t x u (nxe t x s) = (false, nxe t x (nxe t x s), u) := by unfold pDown; rw [if_pos hk1, if_neg hk2]
      rw [hR]
      exact ⟨_, rfl, rfl, F2, S2, fun z => absurd (show false = true from z) (by decide)⟩)
  · refine hz_callVs (pc := 12) C (as := [.int (nI 0), .int (nI (u 64) - nI 1)]) (st := []) (ev_numN X1 hs1 S1 (by decide) hk1) (hz_new0 _ _) fyX8_number fvX8_65 rfl dX8_downItem_12 hT2 rfl rfl hA2 rfl rfl (Nat.le_of_ble_eq_true rfl) (by decide) (hz_cap0 _) ?_
    refine hz_istore_n (pc := 15) C (ls' := [some (.ref 2), some (.ref 45), some (.int (-1 : Int32))]) dX8_downItem_15 (Nat.le_of_ble_eq_true rfl) rfl ?_
    refine hz_iload_n (pc := 16) C dX8_downItem_16 rfl ?_
    refine hz_iconst (pc := 17) C (v := (-1 : Int32)) dX8_downItem_17 (by decide +kernel) ?_
    refine hz_ic_eq (pc := 18) C (tgt := 28) dX8_downItem_18 rfl (fun _ => ?_) (fun cq => absurd rfl cq)
    refine hz_iconst (pc := 28) C (v := nI 0) dX8_downItem_28 (by decide +kernel) ?_
    exact hz_zretx C Z rfl (by decide +kernel) dX8_downItem_29 (by
      have hR : pDown t x u (nxe t x s) = (false, nxe t x s, u) := by unfold pDown; rw [if_neg hk1]
      rw [hR]
      exact ⟨_, rfl, rfl, F1, S1, fun z => absurd (show false = true from z) (by decide)⟩)

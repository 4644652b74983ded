theorem el_bT {y : hz_Y} {T : hz_T} {n : Nat} {M : hz_M} {as : List Value} {P : Nat → Nat → Nat} {b : Bool} {F : (Nat → Nat → Int32) → (Nat → Nat → Int64) → Prop} (h : b = true) (E : hz_Ex y T n M as (hz_PL P (some (.int (bI b))) F)) : hz_Ex y T n M as (hz_PL P (some (.int (nI 1))) F) := by subst h; exact E
theorem el_bF {y : hz_Y} {T : hz_T} {n : Nat} {M : hz_M} {as : List Value} {P : Nat → Nat → Nat} {b : Bool} {F : (Nat → Nat → Int32) → (Nat → Nat → Int64) → Prop} (h : ¬ b = true) (E : hz_Ex y T n M as (hz_PL P (some (.int (bI b))) F)) : hz_Ex y T n M as (hz_PL P (some (.int (nI 0))) F) := by
  cases b with
  | false => exact E
  | true => exact absurd rfl h
theorem kR_2 {t : Nat} {x : Nat → Nat} {s : Nat} : kR t x s = 2 ↔ kc t x s = 2 ∧ nxe t x s - bgn t x s ≤ 2 := by
  unfold kR
  by_cases z : kc t x s = 2 ∧ ¬ nxe t x s - bgn t x s ≤ 2
  · rw [if_pos z]; exact ⟨fun h => absurd h (by decide), fun h => absurd h.2 z.2⟩
  · rw [if_neg z]; exact ⟨fun h => ⟨h, Decidable.byContradiction fun e => z ⟨h, e⟩⟩, fun h => h.1⟩
theorem okn_k {t : Nat} {x : Nat → Nat} {s lo : Nat} {v : Int32} (h : okn t x s lo v = true) : kR t x s = 2 := kR_2.mpr ⟨(okn_i.mp h).1, (okn_i.mp h).2.1⟩
theorem kR_le (t : Nat) (x : Nat → Nat) (s : Nat) : kR t x s ≤ 4 := by
  have := kc_le t x s
  unfold kR
  split <;> omega
def MR (K : Nat → Nat → Int32) (u : Nat → Nat) : Prop := ∀ j, j < 181 → K 148 j = mv u j
theorem MR.cong {J K : Nat → Nat → Int32} {u : Nat → Nat} (V : MR J u) (e : K 148 = J 148) : MR K u := fun j hj => by rw [e]; exact V j hj
theorem mr_up {J : Nat → Nat → Int32} {u : Nat → Nat} (V : MR J u) {k x : Nat} (h : k < 79 ∨ 89 < k) : MR (hz_up J 148 k (nI x)) (va_up u k x) := fun j hj => by
  by_cases e : j = k
  · subst e; rw [hz_up_self, mv_n h, va_up_self]
  · rw [hz_up_nk _ _ _ _ e, V j hj]; exact (mv_c (va_up_ne _ _ e)).symm
theorem mr_g {J : Nat → Nat → Int32} {u : Nat → Nat} (V : MR J u) {k : Nat} (h : k < 79 ∨ 89 < k) (hk : k < 181) : J 148 k = nI (u k) := (V k hk).trans (mv_n h)
theorem mr_0 (I : Nat → Nat → Int32) : MR (hz_sa I 148 (bg (I 148))) u0 := fun j hj => by
  have h := mv_0 (fun a => if a = 147 then I 148 else I a) j hj
  rw [sa_eq] at h
  rw [sa_eq]; exact h
def mF (J K : Nat → Nat → Int32) : Prop := (∀ a, a ≠ 146 → a ≠ 148 → K a = J a) ∧ K 146 7 = J 146 7 ∧ K 146 14 = J 146 14
theorem mF.rf (J : Nat → Nat → Int32) : mF J J := ⟨fun _ _ _ => rfl, rfl, rfl⟩
theorem mF.c {I J K : Nat → Nat → Int32} (h : mF I J) (g : mC J K) : mF I K := ⟨fun a h1 h2 => (g.1 a h1).trans (h.1 a h1 h2), g.2.1.trans h.2.1, g.2.2.trans h.2.2⟩
theorem mF.tr {I J K : Nat → Nat → Int32} (h : mF I J) (g : mF J K) : mF I K := ⟨fun a h1 h2 => (g.1 a h1 h2).trans (h.1 a h1 h2), g.2.1.trans h.2.1, g.2.2.trans h.2.2⟩
theorem mF.up {J K : Nat → Nat → Int32} (h : mF J K) (k : Nat) (v : Int32) : mF J (hz_up K 148 k v) := ⟨fun a h1 h2 => (hz_up_ne _ _ _ _ h2).trans (h.1 a h1 h2), by rw [hz_up_ne _ _ _ _ (by decide)]; exact h.2.1, by rw [hz_up_ne _ _ _ _ (by decide)]; exact h.2.2⟩
theorem mF.mxt {J K : Nat → Nat → Int32} {t : Nat} {x : Nat → Nat} (h : mF J K) (X0 : mxt J t x) : mxt K t x := ⟨X0.1, h.2.1.trans X0.2.1, fun j hj => by rw [h.1 152 (by omega) (by omega)]; exact X0.2.2 j hj⟩
theorem mC.mr {J K : Nat → Nat → Int32} {u : Nat → Nat} (h : mC J K) (V : MR J u) : MR K u := V.cong (h.1 148 (by omega))
theorem mS.up {K : Nat → Nat → Int32} {W : Nat → Nat → Int64} {t : Nat} {x : Nat → Nat} {s : Nat} (h : mS K W t x s) (k : Nat) (v : Int32) : mS (hz_up K 148 k v) W t x s := by
  unfold mS at h ⊢
  rw [hz_up_ne _ _ _ _ (show (146 : Nat) ≠ 148 by decide)]; exact h
/-- what an item of the reference leaves behind: the last token looked at, and the row -/
def rP (t : Nat) (x : Nat → Nat) (J : Nat → Nat → Int32) (L : Nat → Nat → Int64) (R : pR) (K : Nat → Nat → Int32) (W : Nat → Nat → Int64) : Prop := mF J K ∧ wC L W ∧ mS K W t x R.2.1 ∧ (R.1 = true → MR K R.2.2 ∧ R.2.2 100 = 0)
set_option maxHeartbeats 4000000 in
set_option maxRecDepth 100000 in
theorem ex_isNum {J : Nat → Nat → Int32} {L : Nat → Nat → Int64} {q : Nat → Nat → Nat} {t : Nat} {x : Nat → Nat} (X0 : mxt J t x) {s : Nat} (hs : s ≤ t) (h9 : J 146 9 = nI s) {lo : Nat} (v : Int32) : hz_Ex mX11_isNumber TT NN (J, L, PP q) [.ref 146, .int (nI lo), .int v] (hz_PL (PP q) (some (.int (bI (okn t x s lo v)))) (fun K W => mC J K ∧ wC L W ∧ mS K W t x s)) := by
  refine hz_Ex.intro (ls := [some (.ref 146), some (.int (nI lo)), some (.int v)]) (by decide +kernel) rfl (Nat.le_of_ble_eq_true rfl) (fun X C Z => ?_)
  refine hz_aload_n (pc := 0) C dX11_isNumber_0 rfl ?_
  refine hz_callVlv (pc := 1) C (as := []) (st := []) (ex_nextT X0 hs h9) fyX11_nextToken fvX11_98 rfl dX11_isNumber_1 hT146 rfl rfl hA146 rfl rfl (Nat.le_of_ble_eq_true rfl) (by decide) (hz_cap0 _) (fun K1 W1 h1 => ?_)
  have hkr := kR_le t x s
  by_cases hk1 : kR t x s = 2
  · refine hz_aload_n (pc := 4) C dX11_isNumber_4 rfl ?_
    refine hz_getI (pc := 5) C (v := nI (kR t x s)) ffX11_87 dX11_isNumber_5 hT146 hA146 rfl h1.2.2.2.2.1 ?_
    refine hz_iconst (pc := 8) C (v := nI 2) dX11_isNumber_8 (by decide +kernel) ?_
    refine hz_ic_ne (pc := 9) C (tgt := 28) dX11_isNumber_9 rfl (fun cq => absurd ((nI_eq (by omega) (by omega)).mpr (by omega)) cq) (fun _ => ?_)
    refine hz_aload_n (pc := 12) C dX11_isNumber_12 rfl ?_
    refine hz_getI (pc := 13) C (v := nI (vl t x s)) ffX11_84 dX11_isNumber_13 hT146 hA146 rfl (h1.2.2.2.2.2.1 hk1) ?_
    refine hz_iload_n (pc := 16) C dX11_isNumber_16 rfl ?_
    refine hz_iload_n (pc := 17) C dX11_isNumber_17 rfl ?_
    refine hz_callSs (pc := 18) C (as := [.int (nI (vl t x s)), .int (nI lo), .int v]) (st := []) (ev_in _ (nI (vl t x s)) (nI lo) v) (hz_new0 _ _) fyX11_in fsX11_52 rfl dX11_isNumber_18 rfl rfl (Nat.le_of_ble_eq_true rfl) (by decide) (hz_cap0 _) ?_
    refine hz_ifb_eq (pc := 21) C (tgt := 28) dX11_isNumber_21 rfl (fun zzc1 => ?_) (fun zzc1 => ?_)
    · refine hz_iconst (pc := 28) C (v := nI 0) dX11_isNumber_28 (by decide +kernel) ?_
      exact hz_zretx C Z rfl (by decide +kernel) dX11_isNumber_29 ⟨K1, W1, congrArg (fun b => some (Value.int (bI b))) (Bool.eq_false_iff.mpr (fun z => zzc1 (okn_i.mp z).2.2)).symm, rfl, h1⟩
    · refine hz_iconst (pc := 24) C (v := nI 1) dX11_isNumber_24 (by decide +kernel) ?_
      refine hz_goto (pc := 25) C (tgt := 29) dX11_isNumber_25 rfl ?_
      exact hz_zretx C Z rfl (by decide +kernel) dX11_isNumber_29 ⟨K1, W1, congrArg (fun b => some (Value.int (bI b))) (okn_i.mpr ⟨(kR_2.mp hk1).1, (kR_2.mp hk1).2, zzc1⟩).symm, rfl, h1⟩
  · refine hz_aload_n (pc := 4) C dX11_isNumber_4 rfl ?_
    refine hz_getI (pc := 5) C (v := nI (kR t x s)) ffX11_87 dX11_isNumber_5 hT146 hA146 rfl h1.2.2.2.2.1 ?_
    refine hz_iconst (pc := 8) C (v := nI 2) dX11_isNumber_8 (by decide +kernel) ?_
    refine hz_ic_ne (pc := 9) C (tgt := 28) dX11_isNumber_9 rfl (fun _ => ?_) (fun cq => absurd ((nI_eq (by omega) (by omega)).mp cq) (by omega))
    refine hz_iconst (pc := 28) C (v := nI 0) dX11_isNumber_28 (by decide +kernel) ?_
    exact hz_zretx C Z rfl (by decide +kernel) dX11_isNumber_29 ⟨K1, W1, congrArg (fun b => some (Value.int (bI b))) (Bool.eq_false_iff.mpr (fun z => hk1 (okn_k z))).symm, rfl, h1⟩
def rCold (t : Nat) (x u : Nat → Nat) (s : Nat) : pR := if okn t x s 0 (nI 9) = true then (true, s, va_up u 92 (vl t x s)) else (false, s, u)
def rDoor (t : Nat) (x u : Nat → Nat) (s : Nat) : pR := if okn t x s 0 (nI 7) = true then (if okn t x (nxe t x s) 0 (nI 7) = true then (if nI (vl t x (nxe t x s)) = nI (vl t x s) then (false, nxe t x s, u) else if okn t x (nxe t x (nxe t x s)) 1 (nI 9) = true then (true, nxe t x (nxe t x s), va_up (va_up u (8 * vl t x s + vl t x (nxe t x s)) (vl t x (nxe t x (nxe t x s)))) (8 * vl t x (nxe t x s) + vl t x s) (vl t x (nxe t x (nxe t x s)))) else (false, nxe t x (nxe t x s), u)) else (false, nxe t x s, u)) else (false, s, u)
def rAlarm (t : Nat) (x u : Nat → Nat) (s : Nat) : pR := if okn t x s 0 (nI 5) = true then (if okn t x (nxe t x s) 0 (nI 7) = true then (if okn t x (nxe t x (nxe t x s)) 0 (nI 99) = true then (true, nxe t x (nxe t x s), alU u (vl t x s) (vl t x (nxe t x s)) (vl t x (nxe t x (nxe t x s)))) else (false, nxe t x (nxe t x s), u)) else (false, nxe t x s, u)) else (false, s, u)
def rDown (t : Nat) (x u : Nat → Nat) (s : Nat) : pR := if okn t x s 0 (nI (u 64) - nI 1) = true then (true, s, va_up u 93 (dnb (u 93) (vl t x s) 1)) else (false, s, u)
theorem or_dn {d k : Nat} (hd : d < 64) (hk : k < 6) : (nI d ||| (nI 1 <<< (nI k &&& 31))) = nI (dnb d k 1) := by
  have h : ∀ d, d < 64 → ∀ k, k < 6 → (nI d ||| (nI 1 <<< (nI k &&& 31))) = nI (dnb d k 1) := by decide +kernel
  exact h d hd k hk
theorem va_id {f : Nat → Nat} {k v : Nat} (h : f k = v) : va_up f k v = f := by
  funext j
  by_cases e : j = k
  · subst e; rw [va_up_self, h]
  · rw [va_up_ne _ _ e]
set_option maxHeartbeats 4000000 in
set_option maxRecDepth 100000 in
theorem ex_rCold {J : Nat → Nat → Int32} {L : Nat → Nat → Int64} {q : Nat → Nat → Nat} {t : Nat} {x : Nat → Nat} (X0 : mxt J t x) {s : Nat} (hs : s ≤ t) (S0 : mS J L t x s) {u : Nat → Nat} (V0 : MR J u) (h100 : u 100 = 0) (U : WU u) : hz_Ex mX11_isCold TT NN (J, L, PP q) [.ref 146] (hz_PL (PP q) (some (.int (bI (rCold t x u (nxe t x s)).1))) (rP t x J L (rCold t x u (nxe t x s)))) := by
  have hal := wu_al U
  have hdn := wu_dn U
  refine hz_Ex.intro (ls := [some (.ref 146)]) (by decide +kernel) rfl (Nat.le_of_ble_eq_true rfl) (fun X C Z => ?_)
  by_cases hk1 : okn t x (nxe t x s) 0 (nI 9) = true
  · refine hz_aload_n (pc := 0) C dX11_isCold_0 rfl ?_
    refine hz_iconst (pc := 1) C (v := nI 0) dX11_isCold_1 (by decide +kernel) ?_
    refine hz_bipush (pc := 2) C (v := nI 9) dX11_isCold_2 (by decide +kernel) ?_
    refine hz_callVls (pc := 4) C (as := [.int (nI 0), .int (nI 9)]) (st := []) (el_bT hk1 (ex_isNum X0 (nxe_t hs) S0.1 _)) fyX11_isNumber fvX11_101 rfl dX11_isCold_4 hT146 rfl rfl hA146 rfl rfl (Nat.le_of_ble_eq_true rfl) (by decide) (hz_cap0 _) (fun K1 W1 h1 => ?_)
    have X1 := h1.1.mxt X0
    have S1 := h1.2.2
    have hs1 : nxe t x s ≤ t := nxe_t hs
    have F1 := (mF.rf J).c h1.1
    have G1 := (wC.rf L).tr h1.2.1
    have V1 := h1.1.mr V0
    refine hz_if_ne (pc := 7) C (tgt := 12) dX11_isCold_7 rfl (fun _ => ?_) (fun cq => absurd cq (by decide +kernel))
    refine hz_aload_n (pc := 12) C dX11_isCold_12 rfl ?_
    refine hz_getP (pc := 13) C (v := 148) ffX11_13 dX11_isCold_13 hT146 hA146 rfl (hP146_1 q) (by decide) ?_
    refine hz_bipush (pc := 16) C (v := nI 92) dX11_isCold_16 (by decide +kernel) ?_
    refine hz_aload_n (pc := 18) C dX11_isCold_18 rfl ?_
    refine hz_getI (pc := 19) C (v := nI (vl t x (nxe t x s))) ffX11_84 dX11_isCold_19 hT146 hA146 rfl (S1.2.2.2.1 (okn_k hk1)) ?_
    refine hz_iast (pc := 22) C (v := nI (vl t x (nxe t x s))) (j := 92) (M' := (hz_up K1 148 92 (nI (vl t x (nxe t x s))), W1, PP q)) dX11_isCold_22 hT148 hA148 rfl (by decide) (by decide) rfl rfl ?_
    refine hz_iconst (pc := 23) C (v := nI 1) dX11_isCold_23 (by decide +kernel) ?_
    exact hz_zretx C Z rfl (by decide +kernel) dX11_isCold_24 (by
      have hR : rCold t x u (nxe t x s) = (true, nxe t x s, va_up u 92 (vl t x (nxe t x s))) := by unfold rCold; rw [if_pos hk1]
      rw [hR]
      exact ⟨_, _, rfl, rfl, (F1.up _ _), G1, (S1.up _ _), fun _ => ⟨show MR _ (va_up u 92 (vl t x (nxe t x s))) from mr_up V1 (by decide), show (va_up u 92 (vl t x (nxe t x s))) 100 = 0 from (va_up_ne _ _ (by decide)).trans h100⟩⟩)
  · refine hz_aload_n (pc := 0) C dX11_isCold_0 rfl ?_
    refine hz_iconst (pc := 1) C (v := nI 0) dX11_isCold_1 (by decide +kernel) ?_
    refine hz_bipush (pc := 2) C (v := nI 9) dX11_isCold_2 (by decide +kernel) ?_
    refine hz_callVls (pc := 4) C (as := [.int (nI 0), .int (nI 9)]) (st := []) (el_bF hk1 (ex_isNum X0 (nxe_t hs) S0.1 _)) fyX11_isNumber fvX11_101 rfl dX11_isCold_4 hT146 rfl rfl hA146 rfl rfl (Nat.le_of_ble_eq_true rfl) (by decide) (hz_cap0 _) (fun K2 W2 h2 => ?_)
    have X2 := h2.1.mxt X0
    have S2 := h2.2.2
    have hs2 : nxe t x s ≤ t := nxe_t hs
    have F2 := (mF.rf J).c h2.1
    have G2 := (wC.rf L).tr h2.2.1
    have V2 := h2.1.mr V0
    refine hz_if_ne (pc := 7) C (tgt := 12) dX11_isCold_7 rfl (fun cq => absurd (by decide +kernel) cq) (fun _ => ?_)
    refine hz_iconst (pc := 10) C (v := nI 0) dX11_isCold_10 (by decide +kernel) ?_
    exact hz_zretx C Z rfl (by decide +kernel) dX11_isCold_11 (by
      have hR : rCold t x u (nxe t x s) = (false, nxe t x s, u) := by unfold rCold; rw [if_neg hk1]
      rw [hR]
      exact ⟨_, _, rfl, rfl, F2, G2, S2, fun z => absurd (show false = true from z) (by decide)⟩)
set_option maxHeartbeats 4000000 in
set_option maxRecDepth 100000 in
theorem ex_rDoor {J : Nat → Nat → Int32} {L : Nat → Nat → Int64} {q : Nat → Nat → Nat} {t : Nat} {x : Nat → Nat} (X0 : mxt J t x) {s : Nat} (hs : s ≤ t) (S0 : mS J L t x s) {u : Nat → Nat} (V0 : MR J u) (h100 : u 100 = 0) (U : WU u) : hz_Ex mX11_isDoor TT NN (J, L, PP q) [.ref 146] (hz_PL (PP q) (some (.int (bI (rDoor t x u (nxe t x s)).1))) (rP t x J L (rDoor t x u (nxe t x s)))) := by
  have hal := wu_al U
  have hdn := wu_dn U
  refine hz_Ex.intro (ls := [some (.ref 146), none, none]) (by decide +kernel) rfl (Nat.le_of_ble_eq_true rfl) (fun X C Z => ?_)
  by_cases hk1 : okn t x (nxe t x s) 0 (nI 7) = true
  · refine hz_aload_n (pc := 0) C dX11_isDoor_0 rfl ?_
    refine hz_iconst (pc := 1) C (v := nI 0) dX11_isDoor_1 (by decide +kernel) ?_
    refine hz_bipush (pc := 2) C (v := nI 7) dX11_isDoor_2 (by decide +kernel) ?_
    refine hz_callVls (pc := 4) C (as := [.int (nI 0), .int (nI 7)]) (st := []) (el_bT hk1 (ex_isNum X0 (nxe_t hs) S0.1 _)) fyX11_isNumber fvX11_101 rfl dX11_isDoor_4 hT146 rfl rfl hA146 rfl rfl (Nat.le_of_ble_eq_true rfl) (by decide) (hz_cap0 _) (fun K1 W1 h1 => ?_)
    have X1 := h1.1.mxt X0
    have S1 := h1.2.2
    have hs1 : nxe t x s ≤ t := nxe_t hs
    have F1 := (mF.rf J).c h1.1
    have G1 := (wC.rf L).tr h1.2.1
    have V1 := h1.1.mr V0
    refine hz_if_ne (pc := 7) C (tgt := 12) dX11_isDoor_7 rfl (fun _ => ?_) (fun cq => absurd cq (by decide +kernel))
    refine hz_aload_n (pc := 12) C dX11_isDoor_12 rfl ?_
    refine hz_getI (pc := 13) C (v := nI (vl t x (nxe t x s))) ffX11_84 dX11_isDoor_13 hT146 hA146 rfl (S1.2.2.2.1 (okn_k hk1)) ?_
    refine hz_istore_n (pc := 16) C (ls' := [some (.ref 146), some (.int (nI (vl t x (nxe t x s)))), none]) dX11_isDoor_16 (Nat.le_of_ble_eq_true rfl) rfl ?_
    by_cases hk2 : okn t x (nxe t x (nxe t x s)) 0 (nI 7) = true
    · refine hz_aload_n (pc := 17) C dX11_isDoor_17 rfl ?_
      refine hz_iconst (pc := 18) C (v := nI 0) dX11_isDoor_18 (by decide +kernel) ?_
      refine hz_bipush (pc := 19) C (v := nI 7) dX11_isDoor_19 (by decide +kernel) ?_
      refine hz_callVls (pc := 21) C (as := [.int (nI 0), .int (nI 7)]) (st := []) (el_bT hk2 (ex_isNum X1 (nxe_t hs1) S1.1 _)) fyX11_isNumber fvX11_101 rfl dX11_isDoor_21 hT146 rfl rfl hA146 rfl rfl (Nat.le_of_ble_eq_true rfl) (by decide) (hz_cap0 _) (fun K2 W2 h2 => ?_)
      have X2 := h2.1.mxt X1
      have S2 := h2.2.2
      have hs2 : nxe t x (nxe t x s) ≤ t := nxe_t hs1
      have F2 := F1.c h2.1
      have G2 := G1.tr h2.2.1
      have V2 := h2.1.mr V1
      refine hz_if_eq (pc := 24) C (tgt := 35) dX11_isDoor_24 rfl (fun cq => absurd cq (by decide +kernel)) (fun _ => ?_)
      refine hz_aload_n (pc := 27) C dX11_isDoor_27 rfl ?_
      refine hz_getI (pc := 28) C (v := nI (vl t x (nxe t x (nxe t x s)))) ffX11_84 dX11_isDoor_28 hT146 hA146 rfl (S2.2.2.2.1 (okn_k hk2)) ?_
      refine hz_iload_n (pc := 31) C dX11_isDoor_31 rfl ?_
      refine hz_ic_ne (pc := 32) C (tgt := 37) dX11_isDoor_32 rfl (fun zzc1 => ?_) (fun zzc1 => ?_)
      · refine hz_aload_n (pc := 37) C dX11_isDoor_37 rfl ?_
        refine hz_getI (pc := 38) C (v := nI (vl t x (nxe t x (nxe t x s)))) ffX11_84 dX11_isDoor_38 hT146 hA146 rfl (S2.2.2.2.1 (okn_k hk2)) ?_
        refine hz_istore_n (pc := 41) C (ls' := [some (.ref 146), some (.int (nI (vl t x (nxe t x s)))), some (.int (nI (vl t x (nxe t x (nxe t x s)))))]) dX11_isDoor_41 (Nat.le_of_ble_eq_true rfl) rfl ?_
        by_cases hk3 : okn t x (nxe t x (nxe t x (nxe t x s))) 1 (nI 9) = true
        · refine hz_aload_n (pc := 42) C dX11_isDoor_42 rfl ?_
          refine hz_iconst (pc := 43) C (v := nI 1) dX11_isDoor_43 (by decide +kernel) ?_
          refine hz_bipush (pc := 44) C (v := nI 9) dX11_isDoor_44 (by decide +kernel) ?_
          refine hz_callVls (pc := 46) C (as := [.int (nI 1), .int (nI 9)]) (st := []) (el_bT hk3 (ex_isNum X2 (nxe_t hs2) S2.1 _)) fyX11_isNumber fvX11_101 rfl dX11_isDoor_46 hT146 rfl rfl hA146 rfl rfl (Nat.le_of_ble_eq_true rfl) (by decide) (hz_cap0 _) (fun K3 W3 h3 => ?_)
          have X3 := h3.1.mxt X2
          have S3 := h3.2.2
          have hs3 : nxe t x (nxe t x (nxe t x s)) ≤ t := nxe_t hs2
          have F3 := F2.c h3.1
          have G3 := G2.tr h3.2.1
          have V3 := h3.1.mr V2
          refine hz_if_ne (pc := 49) C (tgt := 54) dX11_isDoor_49 rfl (fun _ => ?_) (fun cq => absurd cq (by decide +kernel))
          have ob1 := (okn_b hs1 (by decide) hk1).2.1
          have ob2 := (okn_b hs2 (by decide) hk2).2.1
          refine hz_aload_n (pc := 54) C dX11_isDoor_54 rfl ?_
          refine hz_getP (pc := 55) C (v := 148) ffX11_13 dX11_isDoor_55 hT146 hA146 rfl (hP146_1 q) (by decide) ?_
          refine hz_bipush (pc := 58) C (v := nI 8) dX11_isDoor_58 (by decide +kernel) ?_
          refine hz_iload_n (pc := 60) C dX11_isDoor_60 rfl ?_
          refine hz_imul (pc := 61) C (v := nI (8 * (vl t x (nxe t x s)))) dX11_isDoor_61 (pk_mul _ _) ?_
          refine hz_iload_n (pc := 62) C dX11_isDoor_62 rfl ?_
          refine hz_iadd (pc := 63) C (v := nI ((8 * (vl t x (nxe t x s))) + (vl t x (nxe t x (nxe t x s))))) dX11_isDoor_63 (nI_add _ _) ?_
          refine hz_aload_n (pc := 64) C dX11_isDoor_64 rfl ?_
          refine hz_getI (pc := 65) C (v := nI (vl t x (nxe t x (nxe t x (nxe t x s))))) ffX11_84 dX11_isDoor_65 hT146 hA146 rfl (S3.2.2.2.1 (okn_k hk3)) ?_
          refine hz_iast (pc := 68) C (v := nI (vl t x (nxe t x (nxe t x (nxe t x s))))) (j := (8 * (vl t x (nxe t x s))) + (vl t x (nxe t x (nxe t x s)))) (M' := (hz_up K3 148 ((8 * (vl t x (nxe t x s))) + (vl t x (nxe t x (nxe t x s)))) (nI (vl t x (nxe t x (nxe t x (nxe t x s))))), W3, PP q)) dX11_isDoor_68 hT148 hA148 rfl (by omega) (by decide) rfl rfl ?_
          refine hz_aload_n (pc := 69) C dX11_isDoor_69 rfl ?_
          refine hz_getP (pc := 70) C (v := 148) ffX11_13 dX11_isDoor_70 hT146 hA146 rfl (hP146_1 q) (by decide) ?_
          refine hz_bipush (pc := 73) C (v := nI 8) dX11_isDoor_73 (by decide +kernel) ?_
          refine hz_iload_n (pc := 75) C dX11_isDoor_75 rfl ?_
          refine hz_imul (pc := 76) C (v := nI (8 * (vl t x (nxe t x (nxe t x s))))) dX11_isDoor_76 (pk_mul _ _) ?_
          refine hz_iload_n (pc := 77) C dX11_isDoor_77 rfl ?_
          refine hz_iadd (pc := 78) C (v := nI ((8 * (vl t x (nxe t x (nxe t x s)))) + (vl t x (nxe t x s)))) dX11_isDoor_78 (nI_add _ _) ?_
          refine hz_aload_n (pc := 79) C dX11_isDoor_79 rfl ?_
          refine hz_getI (pc := 80) C (v := nI (vl t x (nxe t x (nxe t x (nxe t x s))))) ffX11_84 dX11_isDoor_80 hT146 hA146 rfl (by simp (disch := omega) only [hz_up_eq, hz_up_ne, va_up_ne, va_up_self]; exact (S3.2.2.2.1 (okn_k hk3))) ?_
          refine hz_iast (pc := 83) C (v := nI (vl t x (nxe t x (nxe t x (nxe t x s))))) (j := (8 * (vl t x (nxe t x (nxe t x s)))) + (vl t x (nxe t x s))) (M' := (hz_up (hz_up K3 148 ((8 * (vl t x (nxe t x s))) + (vl t x (nxe t x (nxe t x s)))) (nI (vl t x (nxe t x (nxe t x (nxe t x s)))))) 148 ((8 * (vl t x (nxe t x (nxe t x s)))) + (vl t x (nxe t x s))) (nI (vl t x (nxe t x (nxe t x (nxe t x s))))), W3, PP q)) dX11_isDoor_83 hT148 hA148 rfl (by omega) (by decide) rfl rfl ?_
          refine hz_iconst (pc := 84) C (v := nI 1) dX11_isDoor_84 (by decide +kernel) ?_
          exact hz_zretx C Z rfl (by decide +kernel) dX11_isDoor_85 (by
      have hR : rDoor t x u (nxe t x s) = (true, nxe t x (nxe t x (nxe t x s)), va_up (va_up u (8 * vl t x (nxe t x s) + vl t x (nxe t x (nxe t x s))) (vl t x (nxe t x (nxe t x (nxe t x s))))) (8 * vl t x (nxe t x (nxe t x s)) + vl t x (nxe t x s)) (vl t x (nxe t x (nxe t x (nxe t x s))))) := by unfold rDoor; rw [if_pos hk1, if_pos hk2, if_neg zzc1, if_pos hk3]
      rw [hR]
      exact ⟨_, _, rfl, rfl, ((F3.up _ _).up _ _), G3, ((S3.up _ _).up _ _), fun _ => ⟨show MR _ (va_up (va_up u (8 * vl t x (nxe t x s) + vl t x (nxe t x (nxe t x s))) (vl t x (nxe t x (nxe t x (nxe t x s))))) (8 * vl t x (nxe t x (nxe t x s)) + vl t x (nxe t x s)) (vl t x (nxe t x (nxe t x (nxe t x s))))) from mr_up (mr_up V3 (Or.inl (by omega))) (Or.inl (by omega)), show (va_up (va_up u (8 * vl t x (nxe t x s) + vl t x (nxe t x (nxe t x s))) (vl t x (nxe t x (nxe t x (nxe t x s))))) (8 * vl t x (nxe t x (nxe t x s)) + vl t x (nxe t x s)) (vl t x (nxe t x (nxe t x (nxe t x s))))) 100 = 0 from (va_up_ne _ _ (by omega)).trans ((va_up_ne _ _ (by omega)).trans h100)⟩⟩)
        · refine hz_aload_n (pc := 42) C dX11_isDoor_42 rfl ?_
          refine hz_iconst (pc := 43) C (v := nI 1) dX11_isDoor_43 (by decide +kernel) ?_
          refine hz_bipush (pc := 44) C (v := nI 9) dX11_isDoor_44 (by decide +kernel) ?_
          refine hz_callVls (pc := 46) C (as := [.int (nI 1), .int (nI 9)]) (st := []) (el_bF hk3 (ex_isNum X2 (nxe_t hs2) S2.1 _)) fyX11_isNumber fvX11_101 rfl dX11_isDoor_46 hT146 rfl rfl hA146 rfl rfl (Nat.le_of_ble_eq_true rfl) (by decide) (hz_cap0 _) (fun K4 W4 h4 => ?_)
          have X4 := h4.1.mxt X2
          have S4 := h4.2.2
          have hs4 : nxe t x (nxe t x (nxe t x s)) ≤ t := nxe_t hs2
          have F4 := F2.c h4.1
          have G4 := G2.tr h4.2.1
          have V4 := h4.1.mr V2
          refine hz_if_ne (pc := 49) C (tgt := 54) dX11_isDoor_49 rfl (fun cq => absurd (by decide +kernel) cq) (fun _ => ?_)
          refine hz_iconst (pc := 52) C (v := nI 0) dX11_isDoor_52 (by decide +kernel) ?_
          exact hz_zretx C Z rfl (by decide +kernel) dX11_isDoor_53 (by
      have hR : rDoor t x u (nxe t x s) = (false, nxe t x (nxe t x (nxe t x s)), u) := by unfold rDoor; rw [if_pos hk1, if_pos hk2, if_neg zzc1, if_neg hk3]
      rw [hR]
      exact ⟨_, _, rfl, rfl, F4, G4, S4, fun z => absurd (show false = true from z) (by decide)⟩)
      · refine hz_iconst (pc := 35) C (v := nI 0) dX11_isDoor_35 (by decide +kernel) ?_
        exact hz_zretx C Z rfl (by decide +kernel) dX11_isDoor_36 (by
      have hR : rDoor t x u (nxe t x s) = (false, nxe t x (nxe t x s), u) := by unfold rDoor; rw [if_pos hk1, if_pos hk2, if_pos zzc1]
      rw [hR]
      exact ⟨_, _, rfl, rfl, F2, G2, S2, fun z => absurd (show false = true from z) (by decide)⟩)
    · refine hz_aload_n (pc := 17) C dX11_isDoor_17 rfl ?_
      refine hz_iconst (pc := 18) C (v := nI 0) dX11_isDoor_18 (by decide +kernel) ?_
      refine hz_bipush (pc := 19) C (v := nI 7) dX11_isDoor_19 (by decide +kernel) ?_
      refine hz_callVls (pc := 21) C (as := [.int (nI 0), .int (nI 7)]) (st := []) (el_bF hk2 (ex_isNum X1 (nxe_t hs1) S1.1 _)) fyX11_isNumber fvX11_101 rfl dX11_isDoor_21 hT146 rfl rfl hA146 rfl rfl (Nat.le_of_ble_eq_true rfl) (by decide) (hz_cap0 _) (fun K5 W5 h5 => ?_)
      have X5 := h5.1.mxt X1
      have S5 := h5.2.2
      have hs5 : nxe t x (nxe t x s) ≤ t := nxe_t hs1
      have F5 := F1.c h5.1
      have G5 := G1.tr h5.2.1
      have V5 := h5.1.mr V1
      refine hz_if_eq (pc := 24) C (tgt := 35) dX11_isDoor_24 rfl (fun _ => ?_) (fun cq => absurd (by decide +kernel) cq)
      refine hz_iconst (pc := 35) C (v := nI 0) dX11_isDoor_35 (by decide +kernel) ?_
      exact hz_zretx C Z rfl (by decide +kernel) dX11_isDoor_36 (by
      have hR : rDoor t x u (nxe t x s) = (false, nxe t x (nxe t x s), u) := by unfold rDoor; rw [if_pos hk1, if_neg hk2]
      rw [hR]
      exact ⟨_, _, rfl, rfl, F5, G5, S5, fun z => absurd (show false = true from z) (by decide)⟩)
  · refine hz_aload_n (pc := 0) C dX11_isDoor_0 rfl ?_
    refine hz_iconst (pc := 1) C (v := nI 0) dX11_isDoor_1 (by decide +kernel) ?_
    refine hz_bipush (pc := 2) C (v := nI 7) dX11_isDoor_2 (by decide +kernel) ?_
    refine hz_callVls (pc := 4) C (as := [.int (nI 0), .int (nI 7)]) (st := []) (el_bF hk1 (ex_isNum X0 (nxe_t hs) S0.1 _)) fyX11_isNumber fvX11_101 rfl dX11_isDoor_4 hT146 rfl rfl hA146 rfl rfl (Nat.le_of_ble_eq_true rfl) (by decide) (hz_cap0 _) (fun K6 W6 h6 => ?_)
    have X6 := h6.1.mxt X0
    have S6 := h6.2.2
    have hs6 : nxe t x s ≤ t := nxe_t hs
    have F6 := (mF.rf J).c h6.1
    have G6 := (wC.rf L).tr h6.2.1
    have V6 := h6.1.mr V0
    refine hz_if_ne (pc := 7) C (tgt := 12) dX11_isDoor_7 rfl (fun cq => absurd (by decide +kernel) cq) (fun _ => ?_)
    refine hz_iconst (pc := 10) C (v := nI 0) dX11_isDoor_10 (by decide +kernel) ?_
    exact hz_zretx C Z rfl (by decide +kernel) dX11_isDoor_11 (by
      have hR : rDoor t x u (nxe t x s) = (false, nxe t x s, u) := by unfold rDoor; rw [if_neg hk1]
      rw [hR]
      exact ⟨_, _, rfl, rfl, F6, G6, S6, fun z => absurd (show false = true from z) (by decide)⟩)
set_option maxHeartbeats 4000000 in
set_option maxRecDepth 100000 in
theorem ex_rAlarm {J : Nat → Nat → Int32} {L : Nat → Nat → Int64} {q : Nat → Nat → Nat} {t : Nat} {x : Nat → Nat} (X0 : mxt J t x) {s : Nat} (hs : s ≤ t) (S0 : mS J L t x s) {u : Nat → Nat} (V0 : MR J u) (h100 : u 100 = 0) (U : WU u) (h6 : u 64 < 6) : hz_Ex mX11_isAlarmItem TT NN (J, L, PP q) [.ref 146] (hz_PL (PP q) (some (.int (bI (rAlarm t x u (nxe t x s)).1))) (rP t x J L (rAlarm t x u (nxe t x s)))) := by
  have hal := wu_al U
  have hdn := wu_dn U
  refine hz_Ex.intro (ls := [some (.ref 146), none, none]) (by decide +kernel) rfl (Nat.le_of_ble_eq_true rfl) (fun X C Z => ?_)
  refine hz_aload_n (pc := 0) C dX11_isAlarmItem_0 rfl ?_
  refine hz_getP (pc := 1) C (v := 148) ffX11_13 dX11_isAlarmItem_1 hT146 hA146 rfl (hP146_1 q) (by decide) ?_
  refine hz_bipush (pc := 4) C (v := nI 64) dX11_isAlarmItem_4 (by decide +kernel) ?_
  refine hz_iald (pc := 6) C (v := nI (u 64)) (j := 64) dX11_isAlarmItem_6 hT148 hA148 rfl (by decide) (by decide) (mr_g V0 (by decide) (by decide)) ?_
  refine hz_bipush (pc := 7) C (v := nI 6) dX11_isAlarmItem_7 (by decide +kernel) ?_
  refine hz_ic_eq (pc := 9) C (tgt := 21) dX11_isAlarmItem_9 rfl (fun cq => absurd ((nI_eq (by omega) (by omega)).mp cq) (by omega)) (fun _ => ?_)
  by_cases hk1 : okn t x (nxe t x s) 0 (nI 5) = true
  · refine hz_aload_n (pc := 12) C dX11_isAlarmItem_12 rfl ?_
    refine hz_iconst (pc := 13) C (v := nI 0) dX11_isAlarmItem_13 (by decide +kernel) ?_
    refine hz_iconst (pc := 14) C (v := nI 5) dX11_isAlarmItem_14 (by decide +kernel) ?_
    refine hz_callVls (pc := 15) C (as := [.int (nI 0), .int (nI 5)]) (st := []) (el_bT hk1 (ex_isNum X0 (nxe_t hs) S0.1 _)) fyX11_isNumber fvX11_101 rfl dX11_isAlarmItem_15 hT146 rfl rfl hA146 rfl rfl (Nat.le_of_ble_eq_true rfl) (by decide) (hz_cap0 _) (fun K1 W1 h1 => ?_)
    have X1 := h1.1.mxt X0
    have S1 := h1.2.2
    have hs1 : nxe t x s ≤ t := nxe_t hs
    have F1 := (mF.rf J).c h1.1
    have G1 := (wC.rf L).tr h1.2.1
    have V1 := h1.1.mr V0
    refine hz_if_ne (pc := 18) C (tgt := 23) dX11_isAlarmItem_18 rfl (fun _ => ?_) (fun cq => absurd cq (by decide +kernel))
    refine hz_aload_n (pc := 23) C dX11_isAlarmItem_23 rfl ?_
    refine hz_getI (pc := 24) C (v := nI (vl t x (nxe t x s))) ffX11_84 dX11_isAlarmItem_24 hT146 hA146 rfl (S1.2.2.2.1 (okn_k hk1)) ?_
    refine hz_istore_n (pc := 27) C (ls' := [some (.ref 146), some (.int (nI (vl t x (nxe t x s)))), none]) dX11_isAlarmItem_27 (Nat.le_of_ble_eq_true rfl) rfl ?_
    by_cases hk2 : okn t x (nxe t x (nxe t x s)) 0 (nI 7) = true
    · refine hz_aload_n (pc := 28) C dX11_isAlarmItem_28 rfl ?_
      refine hz_iconst (pc := 29) C (v := nI 0) dX11_isAlarmItem_29 (by decide +kernel) ?_
      refine hz_bipush (pc := 30) C (v := nI 7) dX11_isAlarmItem_30 (by decide +kernel) ?_
      refine hz_callVls (pc := 32) C (as := [.int (nI 0), .int (nI 7)]) (st := []) (el_bT hk2 (ex_isNum X1 (nxe_t hs1) S1.1 _)) fyX11_isNumber fvX11_101 rfl dX11_isAlarmItem_32 hT146 rfl rfl hA146 rfl rfl (Nat.le_of_ble_eq_true rfl) (by decide) (hz_cap0 _) (fun K2 W2 h2 => ?_)
      have X2 := h2.1.mxt X1
      have S2 := h2.2.2
      have hs2 : nxe t x (nxe t x s) ≤ t := nxe_t hs1
      have F2 := F1.c h2.1
      have G2 := G1.tr h2.2.1
      have V2 := h2.1.mr V1
      refine hz_if_ne (pc := 35) C (tgt := 40) dX11_isAlarmItem_35 rfl (fun _ => ?_) (fun cq => absurd cq (by decide +kernel))
      refine hz_aload_n (pc := 40) C dX11_isAlarmItem_40 rfl ?_
      refine hz_getI (pc := 41) C (v := nI (vl t x (nxe t x (nxe t x s)))) ffX11_84 dX11_isAlarmItem_41 hT146 hA146 rfl (S2.2.2.2.1 (okn_k hk2)) ?_
      refine hz_istore_n (pc := 44) C (ls' := [some (.ref 146), some (.int (nI (vl t x (nxe t x s)))), some (.int (nI (vl t x (nxe t x (nxe t x s)))))]) dX11_isAlarmItem_44 (Nat.le_of_ble_eq_true rfl) rfl ?_
      by_cases hk3 : okn t x (nxe t x (nxe t x (nxe t x s))) 0 (nI 99) = true
      · refine hz_aload_n (pc := 45) C dX11_isAlarmItem_45 rfl ?_
        refine hz_iconst (pc := 46) C (v := nI 0) dX11_isAlarmItem_46 (by decide +kernel) ?_
        refine hz_bipush (pc := 47) C (v := nI 99) dX11_isAlarmItem_47 (by decide +kernel) ?_
        refine hz_callVls (pc := 49) C (as := [.int (nI 0), .int (nI 99)]) (st := []) (el_bT hk3 (ex_isNum X2 (nxe_t hs2) S2.1 _)) fyX11_isNumber fvX11_101 rfl dX11_isAlarmItem_49 hT146 rfl rfl hA146 rfl rfl (Nat.le_of_ble_eq_true rfl) (by decide) (hz_cap0 _) (fun K3 W3 h3 => ?_)
        have X3 := h3.1.mxt X2
        have S3 := h3.2.2
        have hs3 : nxe t x (nxe t x (nxe t x s)) ≤ t := nxe_t hs2
        have F3 := F2.c h3.1
        have G3 := G2.tr h3.2.1
        have V3 := h3.1.mr V2
        refine hz_if_ne (pc := 52) C (tgt := 57) dX11_isAlarmItem_52 rfl (fun _ => ?_) (fun cq => absurd cq (by decide +kernel))
        refine hz_aload_n (pc := 57) C dX11_isAlarmItem_57 rfl ?_
        refine hz_getP (pc := 58) C (v := 148) ffX11_13 dX11_isAlarmItem_58 hT146 hA146 rfl (hP146_1 q) (by decide) ?_
        refine hz_iload_n (pc := 61) C dX11_isAlarmItem_61 rfl ?_
        refine hz_iload_n (pc := 62) C dX11_isAlarmItem_62 rfl ?_
        refine hz_aload_n (pc := 63) C dX11_isAlarmItem_63 rfl ?_
        refine hz_getI (pc := 64) C (v := nI (vl t x (nxe t x (nxe t x (nxe t x s))))) ffX11_84 dX11_isAlarmItem_64 hT146 hA146 rfl (S3.2.2.2.1 (okn_k hk3)) ?_
        refine hz_callSs (pc := 67) C (as := [.ref 148, .int (nI (vl t x (nxe t x s))), .int (nI (vl t x (nxe t x (nxe t x s)))), .int (nI (vl t x (nxe t x (nxe t x (nxe t x s)))))]) (st := []) (ev_addAl148 (mr_g V3 (by decide) (by decide)) h6 _ _ _) (hz_new0 _ _) fyX11_addAlarm fsX11_67 rfl dX11_isAlarmItem_67 rfl rfl (Nat.le_of_ble_eq_true rfl) (by decide) (hz_cap0 _) ?_
        refine hz_pop (pc := 70) C dX11_isAlarmItem_70 rfl ?_
        refine hz_iconst (pc := 71) C (v := nI 1) dX11_isAlarmItem_71 (by decide +kernel) ?_
        exact hz_zretx C Z rfl (by decide +kernel) dX11_isAlarmItem_72 (by
      have hR : rAlarm t x u (nxe t x s) = (true, nxe t x (nxe t x (nxe t x s)), alU u (vl t x (nxe t x s)) (vl t x (nxe t x (nxe t x s))) (vl t x (nxe t x (nxe t x (nxe t x s))))) := by unfold rAlarm; rw [if_pos hk1, if_pos hk2, if_pos hk3]
      rw [hR]
      exact ⟨_, _, rfl, rfl, ((((F3.up _ _).up _ _).up _ _).up _ _), G3, ((((S3.up _ _).up _ _).up _ _).up _ _), fun _ => ⟨show MR _ (alU u (vl t x (nxe t x s)) (vl t x (nxe t x (nxe t x s))) (vl t x (nxe t x (nxe t x (nxe t x s))))) from (by unfold alU; rw [va_id ((va_up_ne _ _ (by omega)).trans ((va_up_ne _ _ (by omega)).trans ((va_up_ne _ _ (by omega)).trans ((va_up_ne _ _ (by omega)).trans h100))))]; exact mr_up (mr_up (mr_up (mr_up V3 (Or.inl (by omega))) (Or.inl (by omega))) (Or.inr (by omega))) (by decide)), show (alU u (vl t x (nxe t x s)) (vl t x (nxe t x (nxe t x s))) (vl t x (nxe t x (nxe t x (nxe t x s))))) 100 = 0 from va_up_self _ _ _⟩⟩)
      · refine hz_aload_n (pc := 45) C dX11_isAlarmItem_45 rfl ?_
        refine hz_iconst (pc := 46) C (v := nI 0) dX11_isAlarmItem_46 (by decide +kernel) ?_
        refine hz_bipush (pc := 47) C (v := nI 99) dX11_isAlarmItem_47 (by decide +kernel) ?_
        refine hz_callVls (pc := 49) C (as := [.int (nI 0), .int (nI 99)]) (st := []) (el_bF hk3 (ex_isNum X2 (nxe_t hs2) S2.1 _)) fyX11_isNumber fvX11_101 rfl dX11_isAlarmItem_49 hT146 rfl rfl hA146 rfl rfl (Nat.le_of_ble_eq_true rfl) (by decide) (hz_cap0 _) (fun K4 W4 h4 => ?_)
        have X4 := h4.1.mxt X2
        have S4 := h4.2.2
        have hs4 : nxe t x (nxe t x (nxe t x s)) ≤ t := nxe_t hs2
        have F4 := F2.c h4.1
        have G4 := G2.tr h4.2.1
        have V4 := h4.1.mr V2
        refine hz_if_ne (pc := 52) C (tgt := 57) dX11_isAlarmItem_52 rfl (fun cq => absurd (by decide +kernel) cq) (fun _ => ?_)
        refine hz_iconst (pc := 55) C (v := nI 0) dX11_isAlarmItem_55 (by decide +kernel) ?_
        exact hz_zretx C Z rfl (by decide +kernel) dX11_isAlarmItem_56 (by
      have hR : rAlarm t x u (nxe t x s) = (false, nxe t x (nxe t x (nxe t x s)), u) := by unfold rAlarm; rw [if_pos hk1, if_pos hk2, if_neg hk3]
      rw [hR]
      exact ⟨_, _, rfl, rfl, F4, G4, S4, fun z => absurd (show false = true from z) (by decide)⟩)
    · refine hz_aload_n (pc := 28) C dX11_isAlarmItem_28 rfl ?_
      refine hz_iconst (pc := 29) C (v := nI 0) dX11_isAlarmItem_29 (by decide +kernel) ?_
      refine hz_bipush (pc := 30) C (v := nI 7) dX11_isAlarmItem_30 (by decide +kernel) ?_
      refine hz_callVls (pc := 32) C (as := [.int (nI 0), .int (nI 7)]) (st := []) (el_bF hk2 (ex_isNum X1 (nxe_t hs1) S1.1 _)) fyX11_isNumber fvX11_101 rfl dX11_isAlarmItem_32 hT146 rfl rfl hA146 rfl rfl (Nat.le_of_ble_eq_true rfl) (by decide) (hz_cap0 _) (fun K5 W5 h5 => ?_)
      have X5 := h5.1.mxt X1
      have S5 := h5.2.2
      have hs5 : nxe t x (nxe t x s) ≤ t := nxe_t hs1
      have F5 := F1.c h5.1
      have G5 := G1.tr h5.2.1
      have V5 := h5.1.mr V1
      refine hz_if_ne (pc := 35) C (tgt := 40) dX11_isAlarmItem_35 rfl (fun cq => absurd (by decide +kernel) cq) (fun _ => ?_)
      refine hz_iconst (pc := 38) C (v := nI 0) dX11_isAlarmItem_38 (by decide +kernel) ?_
      exact hz_zretx C Z rfl (by decide +kernel) dX11_isAlarmItem_39 (by
      have hR : rAlarm t x u (nxe t x s) = (false, nxe t x (nxe t x s), u) := by unfold rAlarm; rw [if_pos hk1, if_neg hk2]
      rw [hR]
      exact ⟨_, _, rfl, rfl, F5, G5, S5, fun z => absurd (show false = true from z) (by decide)⟩)
  · refine hz_aload_n (pc := 12) C dX11_isAlarmItem_12 rfl ?_
    refine hz_iconst (pc := 13) C (v := nI 0) dX11_isAlarmItem_13 (by decide +kernel) ?_
    refine hz_iconst (pc := 14) C (v := nI 5) dX11_isAlarmItem_14 (by decide +kernel) ?_
    refine hz_callVls (pc := 15) C (as := [.int (nI 0), .int (nI 5)]) (st := []) (el_bF hk1 (ex_isNum X0 (nxe_t hs) S0.1 _)) fyX11_isNumber fvX11_101 rfl dX11_isAlarmItem_15 hT146 rfl rfl hA146 rfl rfl (Nat.le_of_ble_eq_true rfl) (by decide) (hz_cap0 _) (fun K6 W6 h6 => ?_)
    have X6 := h6.1.mxt X0
    have S6 := h6.2.2
    have hs6 : nxe t x s ≤ t := nxe_t hs
    have F6 := (mF.rf J).c h6.1
    have G6 := (wC.rf L).tr h6.2.1
    have V6 := h6.1.mr V0
    refine hz_if_ne (pc := 18) C (tgt := 23) dX11_isAlarmItem_18 rfl (fun cq => absurd (by decide +kernel) cq) (fun _ => ?_)
    refine hz_iconst (pc := 21) C (v := nI 0) dX11_isAlarmItem_21 (by decide +kernel) ?_
    exact hz_zretx C Z rfl (by decide +kernel) dX11_isAlarmItem_22 (by
      have hR : rAlarm t x u (nxe t x s) = (false, nxe t x s, u) := by unfold rAlarm; rw [if_neg hk1]
      rw [hR]
      exact ⟨_, _, rfl, rfl, F6, G6, S6, fun z => absurd (show false = true from z) (by decide)⟩)
set_option maxHeartbeats 4000000 in
set_option maxRecDepth 100000 in
theorem ex_rDown {J : Nat → Nat → Int32} {L : Nat → Nat → Int64} {q : Nat → Nat → Nat} {t : Nat} {x : Nat → Nat} (X0 : mxt J t x) {s : Nat} (hs : s ≤ t) (S0 : mS J L t x s) {u : Nat → Nat} (V0 : MR J u) (h100 : u 100 = 0) (U : WU u) : hz_Ex mX11_isDown TT NN (J, L, PP q) [.ref 146] (hz_PL (PP q) (some (.int (bI (rDown t x u (nxe t x s)).1))) (rP t x J L (rDown t x u (nxe t x s)))) := by
  have hal := wu_al U
  have hdn := wu_dn U
  refine hz_Ex.intro (ls := [some (.ref 146)]) (by decide +kernel) rfl (Nat.le_of_ble_eq_true rfl) (fun X C Z => ?_)
  by_cases hk1 : okn t x (nxe t x s) 0 (nI (u 64) - nI 1) = true
  · refine hz_aload_n (pc := 0) C dX11_isDown_0 rfl ?_
    refine hz_iconst (pc := 1) C (v := nI 0) dX11_isDown_1 (by decide +kernel) ?_
    refine hz_aload_n (pc := 2) C dX11_isDown_2 rfl ?_
    refine hz_getP (pc := 3) C (v := 148) ffX11_13 dX11_isDown_3 hT146 hA146 rfl (hP146_1 q) (by decide) ?_
    refine hz_bipush (pc := 6) C (v := nI 64) dX11_isDown_6 (by decide +kernel) ?_
    refine hz_iald (pc := 8) C (v := nI (u 64)) (j := 64) dX11_isDown_8 hT148 hA148 rfl (by decide) (by decide) (mr_g V0 (by decide) (by decide)) ?_
    refine hz_iconst (pc := 9) C (v := nI 1) dX11_isDown_9 (by decide +kernel) ?_
    refine hz_isub (pc := 10) C (v := nI (u 64) - nI 1) dX11_isDown_10 rfl ?_
    refine hz_callVls (pc := 11) C (as := [.int (nI 0), .int (nI (u 64) - nI 1)]) (st := []) (el_bT hk1 (ex_isNum X0 (nxe_t hs) S0.1 _)) fyX11_isNumber fvX11_101 rfl dX11_isDown_11 hT146 rfl rfl hA146 rfl rfl (Nat.le_of_ble_eq_true rfl) (by decide) (hz_cap0 _) (fun K1 W1 h1 => ?_)
    have X1 := h1.1.mxt X0
    have S1 := h1.2.2
    have hs1 : nxe t x s ≤ t := nxe_t hs
    have F1 := (mF.rf J).c h1.1
    have G1 := (wC.rf L).tr h1.2.1
    have V1 := h1.1.mr V0
    refine hz_if_ne (pc := 14) C (tgt := 19) dX11_isDown_14 rfl (fun _ => ?_) (fun cq => absurd cq (by decide +kernel))
    have ob1 := okn_d hs1 hal hk1
    refine hz_aload_n (pc := 19) C dX11_isDown_19 rfl ?_
    refine hz_getP (pc := 20) C (v := 148) ffX11_13 dX11_isDown_20 hT146 hA146 rfl (hP146_1 q) (by decide) ?_
    refine hz_bipush (pc := 23) C (v := nI 93) dX11_isDown_23 (by decide +kernel) ?_
    refine hz_aload_n (pc := 25) C dX11_isDown_25 rfl ?_
    refine hz_getP (pc := 26) C (v := 148) ffX11_13 dX11_isDown_26 hT146 hA146 rfl (hP146_1 q) (by decide) ?_
    refine hz_bipush (pc := 29) C (v := nI 93) dX11_isDown_29 (by decide +kernel) ?_
    refine hz_iald (pc := 31) C (v := nI (u 93)) (j := 93) dX11_isDown_31 hT148 hA148 rfl (by decide) (by decide) (mr_g V1 (by decide) (by decide)) ?_
    refine hz_iconst (pc := 32) C (v := nI 1) dX11_isDown_32 (by decide +kernel) ?_
    refine hz_aload_n (pc := 33) C dX11_isDown_33 rfl ?_
    refine hz_getI (pc := 34) C (v := nI (vl t x (nxe t x s))) ffX11_84 dX11_isDown_34 hT146 hA146 rfl (S1.2.2.2.1 (okn_k hk1)) ?_
    refine hz_ishl (pc := 37) C (v := nI 1 <<< (nI (vl t x (nxe t x s)) &&& 31)) dX11_isDown_37 rfl ?_
    refine hz_ior (pc := 38) C (v := nI (dnb (u 93) (vl t x (nxe t x s)) 1)) dX11_isDown_38 (or_dn hdn (by omega)) ?_
    refine hz_iast (pc := 39) C (v := nI (dnb (u 93) (vl t x (nxe t x s)) 1)) (j := 93) (M' := (hz_up K1 148 93 (nI (dnb (u 93) (vl t x (nxe t x s)) 1)), W1, PP q)) dX11_isDown_39 hT148 hA148 rfl (by decide) (by decide) rfl rfl ?_
    refine hz_iconst (pc := 40) C (v := nI 1) dX11_isDown_40 (by decide +kernel) ?_
    exact hz_zretx C Z rfl (by decide +kernel) dX11_isDown_41 (by
      have hR : rDown t x u (nxe t x s) = (true, nxe t x s, va_up u 93 (dnb (u 93) (vl t x (nxe t x s)) 1)) := by unfold rDown; rw [if_pos hk1]
      rw [hR]
      exact ⟨_, _, rfl, rfl, (F1.up _ _), G1, (S1.up _ _), fun _ => ⟨show MR _ (va_up u 93 (dnb (u 93) (vl t x (nxe t x s)) 1)) from mr_up V1 (by decide), show (va_up u 93 (dnb (u 93) (vl t x (nxe t x s)) 1)) 100 = 0 from (va_up_ne _ _ (by decide)).trans h100⟩⟩)
  · refine hz_aload_n (pc := 0) C dX11_isDown_0 rfl ?_
    refine hz_iconst (pc := 1) C (v := nI 0) dX11_isDown_1 (by decide +kernel) ?_
    refine hz_aload_n (pc := 2) C dX11_isDown_2 rfl ?_
    refine hz_getP (pc := 3) C (v := 148) ffX11_13 dX11_isDown_3 hT146 hA146 rfl (hP146_1 q) (by decide) ?_
    refine hz_bipush (pc := 6) C (v := nI 64) dX11_isDown_6 (by decide +kernel) ?_
    refine hz_iald (pc := 8) C (v := nI (u 64)) (j := 64) dX11_isDown_8 hT148 hA148 rfl (by decide) (by decide) (mr_g V0 (by decide) (by decide)) ?_
    refine hz_iconst (pc := 9) C (v := nI 1) dX11_isDown_9 (by decide +kernel) ?_
    refine hz_isub (pc := 10) C (v := nI (u 64) - nI 1) dX11_isDown_10 rfl ?_
    refine hz_callVls (pc := 11) C (as := [.int (nI 0), .int (nI (u 64) - nI 1)]) (st := []) (el_bF hk1 (ex_isNum X0 (nxe_t hs) S0.1 _)) fyX11_isNumber fvX11_101 rfl dX11_isDown_11 hT146 rfl rfl hA146 rfl rfl (Nat.le_of_ble_eq_true rfl) (by decide) (hz_cap0 _) (fun K2 W2 h2 => ?_)
    have X2 := h2.1.mxt X0
    have S2 := h2.2.2
    have hs2 : nxe t x s ≤ t := nxe_t hs
    have F2 := (mF.rf J).c h2.1
    have G2 := (wC.rf L).tr h2.2.1
    have V2 := h2.1.mr V0
    refine hz_if_ne (pc := 14) C (tgt := 19) dX11_isDown_14 rfl (fun cq => absurd (by decide +kernel) cq) (fun _ => ?_)
    refine hz_iconst (pc := 17) C (v := nI 0) dX11_isDown_17 (by decide +kernel) ?_
    exact hz_zretx C Z rfl (by decide +kernel) dX11_isDown_18 (by
      have hR : rDown t x u (nxe t x s) = (false, nxe t x s, u) := by unfold rDown; rw [if_neg hk1]
      rw [hR]
      exact ⟨_, _, rfl, rfl, F2, G2, S2, fun z => absurd (show false = true from z) (by decide)⟩)
set_option maxHeartbeats 4000000 in
set_option maxRecDepth 100000 in
theorem ev_rAlF {J : Nat → Nat → Int32} {L : Nat → Nat → Int64} {q : Nat → Nat → Nat} {u : Nat → Nat} (V0 : MR J u) (U : WU u) (h6 : ¬ u 64 < 6) : hz_Ev mX11_isAlarmItem TT NN (J, L, PP q) [.ref 146] 0 0 (some (.int (nI 0))) TT NN (J, L, PP q) := by
  have hal := wu_al U
  refine hz_Ev.intro (ls := [some (.ref 146), none, none]) (by decide +kernel) rfl (Nat.le_of_ble_eq_true rfl) (fun X C Z _ => ?_)
  refine hz_aload_n (pc := 0) C dX11_isAlarmItem_0 rfl ?_
  refine hz_getP (pc := 1) C (v := 148) ffX11_13 dX11_isAlarmItem_1 hT146 hA146 rfl (hP146_1 q) (by decide) ?_
  refine hz_bipush (pc := 4) C (v := nI 64) dX11_isAlarmItem_4 (by decide +kernel) ?_
  refine hz_iald (pc := 6) C (v := nI (u 64)) (j := 64) dX11_isAlarmItem_6 hT148 hA148 rfl (by decide) (by decide) (mr_g V0 (by decide) (by decide)) ?_
  refine hz_bipush (pc := 7) C (v := nI 6) dX11_isAlarmItem_7 (by decide +kernel) ?_
  refine hz_ic_eq (pc := 9) C (tgt := 21) dX11_isAlarmItem_9 rfl (fun _ => ?_) (fun cq => absurd ((nI_eq (by omega) (by omega)).mpr (by omega)) cq)
  refine hz_iconst (pc := 21) C (v := nI 0) dX11_isAlarmItem_21 (by decide +kernel) ?_
  exact hz_zret C Z rfl (by decide +kernel) dX11_isAlarmItem_22 rfl rfl

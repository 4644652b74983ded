theorem el_bT {y : hz_Y} {T : hz_T} {n : Nat} {M : hz_M} {as : List Value} {P : Nat → Nat → Nat} {b : Bool} {F : (Nat → Nat → Int32) → (Nat → Nat → Int64) → Prop} (h : b = true) (E : hz_Ex y T n M as (hz_PL P (some (.int (bI b))) F)) : hz_Ex y T n M as (hz_PL P (some (.int (nI 1))) F) := by subst h; exact E
theorem el_bF {y : hz_Y} {T : hz_T} {n : Nat} {M : hz_M} {as : List Value} {P : Nat → Nat → Nat} {b : Bool} {F : (Nat → Nat → Int32) → (Nat → Nat → Int64) → Prop} (h : ¬ b = true) (E : hz_Ex y T n M as (hz_PL P (some (.int (bI b))) F)) : hz_Ex y T n M as (hz_PL P (some (.int (nI 0))) F) := by
  cases b with
  | false => exact E
  | true => exact absurd rfl h
theorem kR_2 {t : Nat} {x : Nat → Nat} {s : Nat} : kR t x s = 2 ↔ kc t x s = 2 ∧ nxe t x s - bgn t x s ≤ 2 := by
  unfold kR
  by_cases z : kc t x s = 2 ∧ ¬ nxe t x s - bgn t x s ≤ 2
  · rw [if_pos z]; exact ⟨fun h => absurd h (by decide), fun h => absurd h.2 z.2⟩
  · rw [if_neg z]; exact ⟨fun h => ⟨h, Decidable.byContradiction fun e => z ⟨h, e⟩⟩, fun h => h.1⟩
theorem okn_k {t : Nat} {x : Nat → Nat} {s lo : Nat} {v : Int32} (h : okn t x s lo v = true) : kR t x s = 2 := kR_2.mpr ⟨(okn_i.mp h).1, (okn_i.mp h).2.1⟩
theorem kR_le (t : Nat) (x : Nat → Nat) (s : Nat) : kR t x s ≤ 4 := by
  have := kc_le t x s
  unfold kR
  split <;> omega
def MR (K : Nat → Nat → Int32) (u : Nat → Nat) : Prop := ∀ j, j < 181 → K 148 j = mv u j
theorem MR.cong {J K : Nat → Nat → Int32} {u : Nat → Nat} (V : MR J u) (e : K 148 = J 148) : MR K u := fun j hj => by rw [e]; exact V j hj
theorem mr_up {J : Nat → Nat → Int32} {u : Nat → Nat} (V : MR J u) {k x : Nat} (h : k < 79 ∨ 89 < k) : MR (hz_up J 148 k (nI x)) (va_up u k x) := fun j hj => by
  by_cases e : j = k
  · subst e; rw [hz_up_self, mv_n h, va_up_self]
  · rw [hz_up_nk _ _ _ _ e, V j hj]; exact (mv_c (va_up_ne _ _ e)).symm
theorem mr_g {J : Nat → Nat → Int32} {u : Nat → Nat} (V : MR J u) {k : Nat} (h : k < 79 ∨ 89 < k) (hk : k < 181) : J 148 k = nI (u k) := (V k hk).trans (mv_n h)
theorem mr_0 (I : Nat → Nat → Int32) : MR (hz_sa I 148 (bg (I 148))) u0 := fun j hj => by
  have h := mv_0 (fun a => if a = 147 then I 148 else I a) j hj
  rw [sa_eq] at h
  rw [sa_eq]; exact h
def mF (J K : Nat → Nat → Int32) : Prop := (∀ a, a ≠ 146 → a ≠ 148 → K a = J a) ∧ K 146 7 = J 146 7 ∧ K 146 14 = J 146 14
theorem mF.rf (J : Nat → Nat → Int32) : mF J J := ⟨fun _ _ _ => rfl, rfl, rfl⟩
theorem mF.c {I J K : Nat → Nat → Int32} (h : mF I J) (g : mC J K) : mF I K := ⟨fun a h1 h2 => (g.1 a h1).trans (h.1 a h1 h2), g.2.1.trans h.2.1, g.2.2.trans h.2.2⟩
theorem mF.tr {I J K : Nat → Nat → Int32} (h : mF I J) (g : mF J K) : mF I K := ⟨fun a h1 h2 => (g.1 a h1 h2).trans (h.1 a h1 h2), g.2.1.trans h.2.1, g.2.2.trans h.2.2⟩
theorem mF.up {J K : Nat → Nat → Int32} (h : mF J K) (k : Nat) (v : Int32) : mF J (hz_up K 148 k v) := ⟨fun a h1 h2 => (hz_up_ne _ _ _ _ h2).trans (h.1 a h1 h2), by rw [hz_up_ne _ _ _ _ (by decide)]; exact h.2.1, by rw [hz_up_ne _ _ _ _ (by decide)]; exact h.2.2⟩
theorem mF.mxt {J K : Nat → Nat → Int32} {t : Nat} {x : Nat → Nat} (h : mF J K) (X0 : mxt J t x) : mxt K t x := ⟨X0.1, h.2.1.trans X0.2.1, fun j hj => by rw [h.1 152 (by omega) (by omega)]; exact X0.2.2 j hj⟩
theorem mC.mr {J K : Nat → Nat → Int32} {u : Nat → Nat} (h : mC J K) (V : MR J u) : MR K u := V.cong (h.1 148 (by omega))
theorem mS.up {K : Nat → Nat → Int32} {W : Nat → Nat → Int64} {t : Nat} {x : Nat → Nat} {s : Nat} (h : mS K W t x s) (k : Nat) (v : Int32) : mS (hz_up K 148 k v) W t x s := by
  unfold mS at h ⊢
  rw [hz_up_ne _ _ _ _ (show (146 : Nat) ≠ 148 by decide)]; exact h
/-- what an item of the reference leaves behind: the last token looked at, and the row -/
def rP (t : Nat) (x : Nat → Nat) (J : Nat → Nat → Int32) (L : Nat → Nat → Int64) (R : pR) (K : Nat → Nat → Int32) (W : Nat → Nat → Int64) : Prop := mF J K ∧ wC L W ∧ mS K W t x R.2.1 ∧ (R.1 = true → MR K R.2.2 ∧ R.2.2 100 = 0)
set_option maxHeartbeats 4000000 in
set_option maxRecDepth 100000 in
theorem ex_isNum {J : Nat → Nat → Int32} {L : Nat → Nat → Int64} {q : Nat → Nat → Nat} {t : Nat} {x : Nat → Nat} (X0 : mxt J t x) {s : Nat} (hs : s ≤ t) (h9 : J 146 9 = nI s) {lo : Nat} (v : Int32) : hz_Ex mX11_isNumber TT NN (J, L, PP q) [.ref 146, .int (nI lo), .int v] (hz_PL (PP q) (some (.int (bI (okn t x s lo v)))) (fun K W => mC J K ∧ wC L W ∧ mS K W t x s)) := by
  refine hz_Ex.intro (ls := [some (.ref 146), some (.int (nI lo)), some (.int v)]) (by decide +kernel) rfl (Nat.le_of_ble_eq_true rfl) (fun X C Z => ?_)
  refine hz_aload_n (pc := 0) C dX11_isNumber_0 rfl ?_
  refine hz_callVlv (pc := 1) C (as := []) (st := []) (ex_nextT X0 hs h9) fyX11_nextToken fvX11_98 rfl dX11_isNumber_1 hT146 rfl rfl hA146 rfl rfl (Nat.le_of_ble_eq_true rfl) (by decide) (hz_cap0 _) (fun K1 W1 h1 => ?_)
  have hkr := kR_le t x s
  by_cases hk1 : kR t x s = 2
  · refine hz_aload_n (pc := 4) C dX11_isNumber_4 rfl ?_
    refine hz_getI (pc := 5) C (v := nI (kR t x s)) ffX11_87 dX11_isNumber_5 hT146 hA146 rfl h1.2.2.2.2.1 ?_
    refine hz_iconst (pc := 8) C (v := nI 2) dX11_isNumber_8 (by decide +kernel) ?_
    refine hz_ic_ne (pc := 9) C (tgt := 28) dX11_isNumber_9 rfl (fun cq => absurd ((nI_eq (by omega) (by omega)).mpr (by omega)) cq) (fun _ => ?_)
    refine hz_aload_n (pc := 12) C dX11_isNumber_12 rfl ?_
    refine hz_getI (pc := 13) C (v := nI (vl t x s)) ffX11_84 dX11_isNumber_13 hT146 hA146 rfl (h1.2.2.2.2.2.1 hk1) ?_
    refine hz_iload_n (pc := 16) C dX11_isNumber_16 rfl ?_
    refine hz_iload_n (pc := 17) C dX11_isNumber_17 rfl ?_
    refine hz_callSs (pc := 18) C (as := [.int (nI (vl t x s)), .int (nI lo), .int v]) (st := []) (ev_in _ (nI (vl t x s)) (nI lo) v) (hz_new0 _ _) fyX11_in fsX11_52 rfl dX11_isNumber_18 rfl rfl (Nat.le_of_ble_eq_true rfl) (by decide) (hz_cap0 _) ?_
    refine hz_ifb_eq (pc := 21) C (tgt := 28) dX11_isNumber_21 rfl (fun zzc1 => ?_) (fun zzc1 => ?_)
    · refine hz_iconst (pc := 28) C (v := nI 0) dX11_isNumber_28 (by decide +kernel) ?_
      exact hz_zretx C Z rfl (by decide +kernel) dX11_isNumber_29 ⟨K1, W1, congrArg (fun b => some (Value.int (bI b))) (Bool.eq_false_iff.mpr (fun z => zzc1 (okn_i.mp z).2.2)).symm, rfl, h1⟩
    · refine hz_iconst (pc := 24) C (v := nI 1) dX11_isNumber_24 (by decide +kernel) ?_
      refine hz_goto (pc := 25) C (tgt := 29) dX11_isNumber_25 rfl ?_
      exact hz_zretx C Z rfl (by decide +kernel) dX11_isNumber_29 ⟨K1, W1, congrArg (fun b => some (Value.int (bI b))) (okn_i.mpr ⟨(kR_2.mp hk1).1, (kR_2.mp hk1).2, zzc1⟩).symm, rfl, h1⟩
  · refine hz_aload_n (pc := 4) C dX11_isNumber_4 rfl ?_
    refine hz_getI (pc := 5) C (v := nI (kR t x s)) ffX11_87 dX11_isNumber_5 hT146 hA146 rfl h1.2.2.2.2.1 ?_
    refine hz_iconst (pc := 8) C (v := nI 2) dX11_isNumber_8 (by decide +kernel) ?_
    refine hz_ic_ne (pc := 9) C (tgt := 28) dX11_isNumber_9 rfl (fun _ => ?_) (fun cq => absurd ((nI_eq (by omega) (by omega)).mp cq) (by omega))
    refine hz_iconst (pc := 28) C (v := nI 0) dX11_isNumber_28 (by decide +kernel) ?_
    exact hz_zretx C Z rfl (by decide +kernel) dX11_isNumber_29 ⟨K1, W1, congrArg (fun b => some (Value.int (bI b))) (Bool.eq_false_iff.mpr (fun z => hk1 (okn_k z))).symm, rfl, h1⟩

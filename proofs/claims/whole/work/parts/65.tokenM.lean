/-- one end, by a property of the ints and the longs -/
def hz_PL (P : Nat → Nat → Nat) (r : Option Value) (F : (Nat → Nat → Int32) → (Nat → Nat → Int64) → Prop) : Option Value → hz_M → Prop := fun r' M' => ∃ K W, r' = r ∧ M' = (K, W, P) ∧ F K W
section LWRAP
variable {X : hz_X} {y y0 : hz_Y} {T : hz_T} {n : Nat} {M : hz_M} {kc ks pc ix na : Nat} {ls : List (Option Value)} {st stk as : List Value} {v : Value} {P : Nat → Nat → Nat} {F0' : (Nat → Nat → Int32) → (Nat → Nat → Int64) → Prop}
theorem hz_callVls (C : hz_C X y) {a c N : Nat} {rr : vw_C} (E : hz_Ex y0 T n M (.ref a :: as) (hz_PL P (some v) F0')) (Y : hz_FY y0 na) (F : hz_FV y.1.cls ix y0) (hna : as.length = na) (d : decode y.2.1 pc = .ok (.invokevirtual ix, 3)) (hT : T a = (c, N)) (hc : vwCl[c]? = some rr) (hcl : rr.1 = y0.1.cls) (ha : a ≠ 0 ∧ a ≤ n) (hst : stk = as.reverse ++ .ref a :: st) (hlen : ls.length = y.2.2.1) (hsum : (st.map Value.category).sum ≤ 8) (hd : y0.2.2.2.2 + 1 ≤ y.2.2.2.2) (hcap : hz_cap X kc ks) (kk : ∀ K W, F0' K W → hz_G X T n (K, W, P) kc ks (pc + 3) ls (v :: st)) : hz_G X T n M kc ks pc ls stk :=
  hz_callVx C E Y F hna d hT hc hcl ha hst hlen hsum hd hcap (fun r M' ⟨K, W, zze1, zze2, hJ⟩ => by subst zze1; subst zze2; exact kk K W hJ)
theorem hz_callVlv (C : hz_C X y) {a c N : Nat} {rr : vw_C} (E : hz_Ex y0 T n M (.ref a :: as) (hz_PL P none F0')) (Y : hz_FY y0 na) (F : hz_FV y.1.cls ix y0) (hna : as.length = na) (d : decode y.2.1 pc = .ok (.invokevirtual ix, 3)) (hT : T a = (c, N)) (hc : vwCl[c]? = some rr) (hcl : rr.1 = y0.1.cls) (ha : a ≠ 0 ∧ a ≤ n) (hst : stk = as.reverse ++ .ref a :: st) (hlen : ls.length = y.2.2.1) (hsum : (st.map Value.category).sum ≤ 8) (hd : y0.2.2.2.2 + 1 ≤ y.2.2.2.2) (hcap : hz_cap X kc ks) (kk : ∀ K W, F0' K W → hz_G X T n (K, W, P) kc ks (pc + 3) ls (st)) : hz_G X T n M kc ks pc ls stk :=
  hz_callVx C E Y F hna d hT hc hcl ha hst hlen hsum hd hcap (fun r M' ⟨K, W, zze1, zze2, hJ⟩ => by subst zze1; subst zze2; exact kk K W hJ)
end LWRAP
def mxt (J : Nat → Nat → Int32) (t : Nat) (x : Nat → Nat) : Prop := t ≤ 150 ∧ J 146 7 = nI t ∧ ∀ j, j < t → x j < 128 ∧ J 152 j = nI (x j)
def mC (J K : Nat → Nat → Int32) : Prop := (∀ a, a ≠ 146 → K a = J a) ∧ K 146 7 = J 146 7 ∧ K 146 14 = J 146 14
def wC (L W : Nat → Nat → Int64) : Prop := ∀ a k, a ≠ 146 ∨ k ≠ 13 → W a k = L a k
theorem mC.rf (J : Nat → Nat → Int32) : mC J J := ⟨fun _ _ => rfl, rfl, rfl⟩
theorem wC.rf (L : Nat → Nat → Int64) : wC L L := fun _ _ _ => rfl
theorem mC.tr {I J K : Nat → Nat → Int32} (h : mC I J) (g : mC J K) : mC I K := ⟨fun a ha => (g.1 a ha).trans (h.1 a ha), g.2.1.trans h.2.1, g.2.2.trans h.2.2⟩
theorem wC.tr {I J K : Nat → Nat → Int64} (h : wC I J) (g : wC J K) : wC I K := fun a k ha => (g a k ha).trans (h a k ha)
theorem mC.up {J K : Nat → Nat → Int32} (h : mC J K) {k : Nat} (h7 : k ≠ 7) (h14 : k ≠ 14) (v : Int32) : mC J (hz_up K 146 k v) := ⟨fun a ha => (hz_up_ne _ _ _ _ ha).trans (h.1 a ha), (hz_up_nk _ _ _ _ h7.symm).trans h.2.1, (hz_up_nk _ _ _ _ h14.symm).trans h.2.2⟩
theorem wC.up {L W : Nat → Nat → Int64} (h : wC L W) (v : Int64) : wC L (hz_up W 146 13 v) := fun a k ha => by
  by_cases e : a = 146
  · subst e; exact (hz_up_nk _ _ _ _ (by omega)).trans (h _ _ ha)
  · rw [hz_up_ne _ _ _ _ e]; exact h a k ha
theorem mC.mxt {J K : Nat → Nat → Int32} {t : Nat} {x : Nat → Nat} (h : mC J K) (X0 : mxt J t x) : mxt K t x := ⟨X0.1, h.2.1.trans X0.2.1, fun j hj => by rw [h.1 152 (by omega)]; exact X0.2.2 j hj⟩
/-- the reference's sort of a letter -/
def kd (t : Nat) (x : Nat → Nat) (p : Nat) : Nat := if p < t ∧ 97 ≤ x p ∧ x p ≤ 122 then 1 else if p < t ∧ 48 ≤ x p ∧ x p ≤ 57 then 2 else 0
set_option maxHeartbeats 4000000 in
set_option maxRecDepth 100000 in
theorem ev_kindAt {J : Nat → Nat → Int32} {L : Nat → Nat → Int64} {q : Nat → Nat → Nat} {t : Nat} {x : Nat → Nat} (X0 : mxt J t x) {p : Nat} (hp : p ≤ t) : hz_Ev mX11_kindAt TT NN (J, L, PP q) [.ref 146, .int (nI p)] 0 0 (some (.int (nI (kd t x p)))) TT NN (J, L, PP q) := by
  have h150 := X0.1
  refine hz_Ev.intro (ls := [some (.ref 146), some (.int (nI p)), none]) (by decide +kernel) rfl (Nat.le_of_ble_eq_true rfl) (fun X C Z _ => ?_)
  by_cases hk1 : p < t
  · refine hz_iload_n (pc := 0) C dX11_kindAt_0 rfl ?_
    refine hz_aload_n (pc := 1) C dX11_kindAt_1 rfl ?_
    refine hz_getI (pc := 2) C (v := nI t) ffX11_71 dX11_kindAt_2 hT146 hA146 rfl X0.2.1 ?_
    refine hz_ic_ge (pc := 5) C (tgt := 17) dX11_kindAt_5 rfl (fun cq => absurd cq (nI_ge (by omega) (by omega))) (fun _ => ?_)
    have hxp := (X0.2.2 p hk1).1
    refine hz_aload_n (pc := 8) C dX11_kindAt_8 rfl ?_
    refine hz_getP (pc := 9) C (v := 152) ffX11_30 dX11_kindAt_9 hT146 hA146 rfl (hP146_8 q) (by decide) ?_
    refine hz_iload_n (pc := 12) C dX11_kindAt_12 rfl ?_
    refine hz_iald (pc := 13) C (v := nI (x p)) (j := p) dX11_kindAt_13 hT152 hA152 rfl (by omega) (by decide) (X0.2.2 p (by omega)).2 ?_
    refine hz_goto (pc := 14) C (tgt := 18) dX11_kindAt_14 rfl ?_
    refine hz_istore_n (pc := 18) C (ls' := [some (.ref 146), some (.int (nI p)), some (.int (nI (x p)))]) dX11_kindAt_18 (Nat.le_of_ble_eq_true rfl) rfl ?_
    refine hz_iload_n (pc := 19) C dX11_kindAt_19 rfl ?_
    refine hz_bipush (pc := 20) C (v := nI 97) dX11_kindAt_20 (by decide +kernel) ?_
    refine hz_bipush (pc := 22) C (v := nI 122) dX11_kindAt_22 (by decide +kernel) ?_
    refine hz_callSs (pc := 24) C (as := [.int (nI (x p)), .int (nI 97), .int (nI 122)]) (st := []) (ev_in _ (nI (x p)) (nI 97) (nI 122)) (hz_new0 _ _) fyX11_in fsX11_52 rfl dX11_kindAt_24 rfl rfl (Nat.le_of_ble_eq_true rfl) (by decide) (hz_cap0 _) ?_
    refine hz_ifb_eq (pc := 27) C (tgt := 34) dX11_kindAt_27 rfl (fun zzc1 => ?_) (fun zzc1 => ?_)
    · refine hz_iload_n (pc := 34) C dX11_kindAt_34 rfl ?_
      refine hz_bipush (pc := 35) C (v := nI 48) dX11_kindAt_35 (by decide +kernel) ?_
      refine hz_bipush (pc := 37) C (v := nI 57) dX11_kindAt_37 (by decide +kernel) ?_
      refine hz_callSs (pc := 39) C (as := [.int (nI (x p)), .int (nI 48), .int (nI 57)]) (st := []) (ev_in _ (nI (x p)) (nI 48) (nI 57)) (hz_new0 _ _) fyX11_in fsX11_52 rfl dX11_kindAt_39 rfl rfl (Nat.le_of_ble_eq_true rfl) (by decide) (hz_cap0 _) ?_
      refine hz_ifb_eq (pc := 42) C (tgt := 49) dX11_kindAt_42 rfl (fun zzc2 => ?_) (fun zzc2 => ?_)
      · refine hz_iconst (pc := 49) C (v := nI 0) dX11_kindAt_49 (by decide +kernel) ?_
        exact hz_iret C Z rfl dX11_kindAt_50 (by unfold kd; rw [if_neg (fun z => zzc1 ⟨nI_nlt z.2.1 (by omega), nI_nlt z.2.2 (by omega)⟩), if_neg (fun z => zzc2 ⟨nI_nlt z.2.1 (by omega), nI_nlt z.2.2 (by omega)⟩)]) rfl
      · refine hz_iconst (pc := 45) C (v := nI 2) dX11_kindAt_45 (by decide +kernel) ?_
        refine hz_goto (pc := 46) C (tgt := 50) dX11_kindAt_46 rfl ?_
        exact hz_iret C Z rfl dX11_kindAt_50 (by unfold kd; rw [if_neg (fun z => zzc1 ⟨nI_nlt z.2.1 (by omega), nI_nlt z.2.2 (by omega)⟩), if_pos ⟨hk1, Nat.le_of_not_lt fun z => zzc2.1 (nI_lt z (by omega)), Nat.le_of_not_lt fun z => zzc2.2 (nI_lt z (by omega))⟩]) rfl
    · refine hz_iconst (pc := 30) C (v := nI 1) dX11_kindAt_30 (by decide +kernel) ?_
      refine hz_goto (pc := 31) C (tgt := 50) dX11_kindAt_31 rfl ?_
      exact hz_iret C Z rfl dX11_kindAt_50 (by unfold kd; rw [if_pos ⟨hk1, Nat.le_of_not_lt fun z => zzc1.1 (nI_lt z (by omega)), Nat.le_of_not_lt fun z => zzc1.2 (nI_lt z (by omega))⟩]) rfl
  · refine hz_iload_n (pc := 0) C dX11_kindAt_0 rfl ?_
    refine hz_aload_n (pc := 1) C dX11_kindAt_1 rfl ?_
    refine hz_getI (pc := 2) C (v := nI t) ffX11_71 dX11_kindAt_2 hT146 hA146 rfl X0.2.1 ?_
    refine hz_ic_ge (pc := 5) C (tgt := 17) dX11_kindAt_5 rfl (fun _ => ?_) (fun cq => absurd (nI_le (by omega) (by omega)) cq)
    refine hz_iconst (pc := 17) C (v := nI 0) dX11_kindAt_17 (by decide +kernel) ?_
    refine hz_istore_n (pc := 18) C (ls' := [some (.ref 146), some (.int (nI p)), some (.int (nI 0))]) dX11_kindAt_18 (Nat.le_of_ble_eq_true rfl) rfl ?_
    refine hz_iload_n (pc := 19) C dX11_kindAt_19 rfl ?_
    refine hz_bipush (pc := 20) C (v := nI 97) dX11_kindAt_20 (by decide +kernel) ?_
    refine hz_bipush (pc := 22) C (v := nI 122) dX11_kindAt_22 (by decide +kernel) ?_
    refine hz_callSs (pc := 24) C (as := [.int (nI 0), .int (nI 97), .int (nI 122)]) (st := []) (ev_in _ (nI 0) (nI 97) (nI 122)) (hz_new0 _ _) fyX11_in fsX11_52 rfl dX11_kindAt_24 rfl rfl (Nat.le_of_ble_eq_true rfl) (by decide) (hz_cap0 _) ?_
    refine hz_ifb_eq (pc := 27) C (tgt := 34) dX11_kindAt_27 rfl (fun _ => ?_) (fun cq => absurd cq (by decide +kernel))
    refine hz_iload_n (pc := 34) C dX11_kindAt_34 rfl ?_
    refine hz_bipush (pc := 35) C (v := nI 48) dX11_kindAt_35 (by decide +kernel) ?_
    refine hz_bipush (pc := 37) C (v := nI 57) dX11_kindAt_37 (by decide +kernel) ?_
    refine hz_callSs (pc := 39) C (as := [.int (nI 0), .int (nI 48), .int (nI 57)]) (st := []) (ev_in _ (nI 0) (nI 48) (nI 57)) (hz_new0 _ _) fyX11_in fsX11_52 rfl dX11_kindAt_39 rfl rfl (Nat.le_of_ble_eq_true rfl) (by decide) (hz_cap0 _) ?_
    refine hz_ifb_eq (pc := 42) C (tgt := 49) dX11_kindAt_42 rfl (fun _ => ?_) (fun cq => absurd cq (by decide +kernel))
    refine hz_iconst (pc := 49) C (v := nI 0) dX11_kindAt_49 (by decide +kernel) ?_
    exact hz_iret C Z rfl dX11_kindAt_50 (by unfold kd; rw [if_neg (fun z => hk1 z.1), if_neg (fun z => hk1 z.1)]) rfl
set_option maxHeartbeats 4000000 in
set_option maxRecDepth 100000 in
theorem lp_sp {X : hz_X} (C : hz_C X mX11_nextToken) {J : Nat → Nat → Int32} {L : Nat → Nat → Int64} {q : Nat → Nat → Nat} {t : Nat} {x : Nat → Nat} (X0 : mxt J t x) {s : Nat} (kk : ∀ K, mC J K → K 146 9 = nI (bgn t x s) → hz_G X TT NN (K, L, PP q) 0 0 38 [some (.ref 146), none] []) : ∀ (n i : Nat) (K : Nat → Nat → Int32), i + n = t → (mC J K ∧ K 146 9 = nI i ∧ bgn t x s = rn t x 32 32 i) → hz_G X TT NN (K, L, PP q) 0 0 0 [some (.ref 146), none] [] := by
  intro n
  induction n with
  | zero =>
    intro i K hi hf
    obtain rfl : t = i := by omega
    have X1 := hf.1.mxt X0
    have h150 := X0.1
    refine hz_aload_n (pc := 0) C dX11_nextToken_0 rfl ?_
    refine hz_getI (pc := 1) C (v := nI t) ffX11_75 dX11_nextToken_1 hT146 hA146 rfl hf.2.1 ?_
    refine hz_aload_n (pc := 4) C dX11_nextToken_4 rfl ?_
    refine hz_getI (pc := 5) C (v := nI t) ffX11_71 dX11_nextToken_5 hT146 hA146 rfl X1.2.1 ?_
    refine hz_ic_ge (pc := 8) C (tgt := 38) dX11_nextToken_8 rfl (fun _ => ?_) (fun cq => absurd (nI_le (by omega) (by omega)) cq)
    exact kk K hf.1 (by rw [hf.2.1, hf.2.2, rn_e (by omega)])
  | succ n ih =>
    intro i K hi hf
    have X1 := hf.1.mxt X0
    have h150 := X0.1
    have hxi := (X0.2.2 i (by omega)).1
    refine hz_aload_n (pc := 0) C dX11_nextToken_0 rfl ?_
    refine hz_getI (pc := 1) C (v := nI i) ffX11_75 dX11_nextToken_1 hT146 hA146 rfl hf.2.1 ?_
    refine hz_aload_n (pc := 4) C dX11_nextToken_4 rfl ?_
    refine hz_getI (pc := 5) C (v := nI t) ffX11_71 dX11_nextToken_5 hT146 hA146 rfl X1.2.1 ?_
    refine hz_ic_ge (pc := 8) C (tgt := 38) dX11_nextToken_8 rfl (fun cq => absurd cq (nI_ge (by omega) (by omega))) (fun _ => ?_)
    refine hz_aload_n (pc := 11) C dX11_nextToken_11 rfl ?_
    refine hz_getP (pc := 12) C (v := 152) ffX11_30 dX11_nextToken_12 hT146 hA146 rfl (hP146_8 q) (by decide) ?_
    refine hz_aload_n (pc := 15) C dX11_nextToken_15 rfl ?_
    refine hz_getI (pc := 16) C (v := nI i) ffX11_75 dX11_nextToken_16 hT146 hA146 rfl hf.2.1 ?_
    refine hz_iald (pc := 19) C (v := nI (x i)) (j := i) dX11_nextToken_19 hT152 hA152 rfl (by omega) (by decide) (X1.2.2 i (by omega)).2 ?_
    refine hz_bipush (pc := 20) C (v := nI 32) dX11_nextToken_20 (by decide +kernel) ?_
    refine hz_ic_ne (pc := 22) C (tgt := 38) dX11_nextToken_22 rfl (fun zzc1 => ?_) (fun zzc1 => ?_)
    · exact kk K hf.1 (by rw [hf.2.1, hf.2.2, rn_e (fun z => zzc1 (congrArg nI (show x i = 32 by omega)))])
    · refine hz_aload_n (pc := 25) C dX11_nextToken_25 rfl ?_
      refine hz_dup (pc := 26) C dX11_nextToken_26 rfl ?_
      refine hz_getI (pc := 27) C (v := nI i) ffX11_75 dX11_nextToken_27 hT146 hA146 rfl hf.2.1 ?_
      refine hz_iconst (pc := 30) C (v := nI 1) dX11_nextToken_30 (by decide +kernel) ?_
      refine hz_iadd (pc := 31) C (v := nI (i + 1)) dX11_nextToken_31 (nI_add _ _) ?_
      refine hz_putI (pc := 32) C (M' := (hz_up K 146 9 (nI (i + 1)), L, PP q)) ffX11_75 dX11_nextToken_32 hT146 hA146 rfl rfl ⟨rfl, rfl⟩ rfl ?_
      refine hz_goto (pc := 35) C (tgt := 0) dX11_nextToken_35 rfl ?_
      exact ih (i + 1) _ (by omega) ⟨hf.1.up (by decide) (by decide) _, hz_up_self _ _ _ _, hf.2.2.trans (rn_s (by omega) (by have h9 := (nI_eq (by omega) (by omega)).mp zzc1; omega))⟩
def wn (x : Nat → Nat) (b : Nat) : Nat → Nat
  | 0 => 0
  | n + 1 => 256 * wn x b n + x (b + n)
def wv (x : Nat → Nat) (b n : Nat) : Int64 := if n ≤ 7 then lN (wn x b n) else -1
def nv (x : Nat → Nat) (b n : Nat) : Nat := if n = 0 then 0 else if n = 1 then x b - 48 else 10 * (x b - 48) + (x (b + 1) - 48)
theorem wv_s {x : Nat → Nat} {b i : Nat} (hb : b ≤ i) (h : i - b < 7) : lN (256 * wn x b (i - b) + x i) = wv x b (i + 1 - b) := by
  unfold wv
  rw [if_pos (by omega), show i + 1 - b = (i - b) + 1 by omega]
  show _ = lN (256 * wn x b (i - b) + x (b + (i - b)))
  rw [show b + (i - b) = i by omega]
theorem wv_l {x : Nat → Nat} {b i : Nat} (hb : b ≤ i) (h : ¬ i - b < 7) : (-1 : Int64) = wv x b (i + 1 - b) := by
  unfold wv
  rw [if_neg (by omega)]
theorem nv_s {x : Nat → Nat} {b i : Nat} (hb : b ≤ i) (h : i - b < 2) (hd : 48 ≤ x i) : nI (10 * nv x b (i - b) + x i - 48) = nI (nv x b (i + 1 - b)) := by
  refine congrArg nI ?_
  unfold nv
  by_cases e : i - b = 0
  · have zze2 : i = b := by omega
    subst zze2
    rw [if_pos (by omega), if_neg (by omega), if_pos (by omega)]; omega
  · have zze2 : i = b + 1 := by omega
    subst zze2
    rw [if_neg (by omega), if_pos (by omega), if_neg (by omega), if_neg (by omega)]; omega
theorem nv_l {x : Nat → Nat} {b i : Nat} (hb : b ≤ i) (h : ¬ i - b < 2) : nv x b (i - b) = nv x b (i + 1 - b) := by
  unfold nv
  rw [if_neg (by omega), if_neg (by omega), if_neg (by omega), if_neg (by omega)]
theorem nv_b {x : Nat → Nat} (b n : Nat) (h : ∀ j, b ≤ j → j < b + n → x j < 128) : nv x b n ≤ 1000 := by
  unfold nv
  split
  · omega
  · split
    · have := h b (by omega) (by omega); omega
    · have := h b (by omega) (by omega); have := h (b + 1) (by omega) (by omega); omega
theorem kd_1 {t : Nat} {x : Nat → Nat} {p : Nat} : kd t x p = 1 ↔ p < t ∧ 97 ≤ x p ∧ x p ≤ 122 := by
  unfold kd
  refine ⟨fun h => ?_, fun h => if_pos h⟩
  by_cases z : p < t ∧ 97 ≤ x p ∧ x p ≤ 122
  · exact z
  · rw [if_neg z] at h; split at h <;> omega
theorem kd_2 {t : Nat} {x : Nat → Nat} {p : Nat} : kd t x p = 2 ↔ p < t ∧ 48 ≤ x p ∧ x p ≤ 57 := by
  unfold kd
  refine ⟨fun h => ?_, fun h => ?_⟩
  · split at h
    · omega
    · split at h
      · assumption
      · omega
  · rw [if_neg (by omega), if_pos h]
theorem kd_le (t : Nat) (x : Nat → Nat) (p : Nat) : kd t x p ≤ 2 := by
  unfold kd
  split
  · omega
  · split <;> omega

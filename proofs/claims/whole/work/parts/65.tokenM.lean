/-- one end, by a property of the ints and the longs -/
def hz_PL (P : Nat → Nat → Nat) (r : Option Value) (F : (Nat → Nat → Int32) → (Nat → Nat → Int64) → Prop) : Option Value → hz_M → Prop := fun r' M' => ∃ K W, r' = r ∧ M' = (K, W, P) ∧ F K W
section LWRAP
variable {X : hz_X} {y y0 : hz_Y} {T : hz_T} {n : Nat} {M : hz_M} {kc ks pc ix na : Nat} {ls : List (Option Value)} {st stk as : List Value} {v : Value} {P : Nat → Nat → Nat} {F0' : (Nat → Nat → Int32) → (Nat → Nat → Int64) → Prop}
theorem hz_callVls (C : hz_C X y) {a c N : Nat} {rr : vw_C} (E : hz_Ex y0 T n M (.ref a :: as) (hz_PL P (some v) F0')) (Y : hz_FY y0 na) (F : hz_FV y.1.cls ix y0) (hna : as.length = na) (d : decode y.2.1 pc = .ok (.invokevirtual ix, 3)) (hT : T a = (c, N)) (hc : vwCl[c]? = some rr) (hcl : rr.1 = y0.1.cls) (ha : a ≠ 0 ∧ a ≤ n) (hst : stk = as.reverse ++ .ref a :: st) (hlen : ls.length = y.2.2.1) (hsum : (st.map Value.category).sum ≤ 8) (hd : y0.2.2.2.2 + 1 ≤ y.2.2.2.2) (hcap : hz_cap X kc ks) (kk : ∀ K W, F0' K W → hz_G X T n (K, W, P) kc ks (pc + 3) ls (v :: st)) : hz_G X T n M kc ks pc ls stk :=
  hz_callVx C E Y F hna d hT hc hcl ha hst hlen hsum hd hcap (fun r M' ⟨K, W, zze1, zze2, hJ⟩ => by subst zze1; subst zze2; exact kk K W hJ)
theorem hz_callVlv (C : hz_C X y) {a c N : Nat} {rr : vw_C} (E : hz_Ex y0 T n M (.ref a :: as) (hz_PL P none F0')) (Y : hz_FY y0 na) (F : hz_FV y.1.cls ix y0) (hna : as.length = na) (d : decode y.2.1 pc = .ok (.invokevirtual ix, 3)) (hT : T a = (c, N)) (hc : vwCl[c]? = some rr) (hcl : rr.1 = y0.1.cls) (ha : a ≠ 0 ∧ a ≤ n) (hst : stk = as.reverse ++ .ref a :: st) (hlen : ls.length = y.2.2.1) (hsum : (st.map Value.category).sum ≤ 8) (hd : y0.2.2.2.2 + 1 ≤ y.2.2.2.2) (hcap : hz_cap X kc ks) (kk : ∀ K W, F0' K W → hz_G X T n (K, W, P) kc ks (pc + 3) ls (st)) : hz_G X T n M kc ks pc ls stk :=
  hz_callVx C E Y F hna d hT hc hcl ha hst hlen hsum hd hcap (fun r M' ⟨K, W, zze1, zze2, hJ⟩ => by subst zze1; subst zze2; exact kk K W hJ)
end LWRAP
def mxt (J : Nat → Nat → Int32) (t : Nat) (x : Nat → Nat) : Prop := t ≤ 150 ∧ J 146 7 = nI t ∧ ∀ j, j < t → x j < 128 ∧ J 152 j = nI (x j)
def mC (J K : Nat → Nat → Int32) : Prop := (∀ a, a ≠ 146 → K a = J a) ∧ K 146 7 = J 146 7 ∧ K 146 14 = J 146 14
def wC (L W : Nat → Nat → Int64) : Prop := ∀ a k, a ≠ 146 ∨ k ≠ 13 → W a k = L a k
theorem mC.rf (J : Nat → Nat → Int32) : mC J J := ⟨fun _ _ => rfl, rfl, rfl⟩
theorem wC.rf (L : Nat → Nat → Int64) : wC L L := fun _ _ _ => rfl
theorem mC.tr {I J K : Nat → Nat → Int32} (h : mC I J) (g : mC J K) : mC I K := ⟨fun a ha => (g.1 a ha).trans (h.1 a ha), g.2.1.trans h.2.1, g.2.2.trans h.2.2⟩
theorem wC.tr {I J K : Nat → Nat → Int64} (h : wC I J) (g : wC J K) : wC I K := fun a k ha => (g a k ha).trans (h a k ha)
theorem mC.up {J K : Nat → Nat → Int32} (h : mC J K) {k : Nat} (h7 : k ≠ 7) (h14 : k ≠ 14) (v : Int32) : mC J (hz_up K 146 k v) := ⟨fun a ha => (hz_up_ne _ _ _ _ ha).trans (h.1 a ha), (hz_up_nk _ _ _ _ h7.symm).trans h.2.1, (hz_up_nk _ _ _ _ h14.symm).trans h.2.2⟩
theorem wC.up {L W : Nat → Nat → Int64} (h : wC L W) (v : Int64) : wC L (hz_up W 146 13 v) := fun a k ha => by
  by_cases e : a = 146
  · subst e; exact (hz_up_nk _ _ _ _ (by omega)).trans (h _ _ ha)
  · rw [hz_up_ne _ _ _ _ e]; exact h a k ha
theorem mC.mxt {J K : Nat → Nat → Int32} {t : Nat} {x : Nat → Nat} (h : mC J K) (X0 : mxt J t x) : mxt K t x := ⟨X0.1, h.2.1.trans X0.2.1, fun j hj => by rw [h.1 152 (by omega)]; exact X0.2.2 j hj⟩
/-- the reference's sort of a letter -/
def kd (t : Nat) (x : Nat → Nat) (p : Nat) : Nat := if p < t ∧ 97 ≤ x p ∧ x p ≤ 122 then 1 else if p < t ∧ 48 ≤ x p ∧ x p ≤ 57 then 2 else 0
set_option maxHeartbeats 4000000 in
set_option maxRecDepth 100000 in
theorem ev_kindAt {J : Nat → Nat → Int32} {L : Nat → Nat → Int64} {q : Nat → Nat → Nat} {t : Nat} {x : Nat → Nat} (X0 : mxt J t x) {p : Nat} (hp : p ≤ t) : hz_Ev mX11_kindAt TT NN (J, L, PP q) [.ref 146, .int (nI p)] 0 0 (some (.int (nI (kd t x p)))) TT NN (J, L, PP q) := by
  have h150 := X0.1
  refine hz_Ev.intro (ls := [some (.ref 146), some (.int (nI p)), none]) (by decide +kernel) rfl (Nat.le_of_ble_eq_true rfl) (fun X C Z _ => ?_)
  by_cases hk1 : p < t
  · refine hz_iload_n (pc := 0) C dX11_kindAt_0 rfl ?_
    refine hz_aload_n (pc := 1) C dX11_kindAt_1 rfl ?_
    refine hz_getI (pc := 2) C (v := nI t) ffX11_71 dX11_kindAt_2 hT146 hA146 rfl X0.2.1 ?_
    refine hz_ic_ge (pc := 5) C (tgt := 17) dX11_kindAt_5 rfl (fun cq => absurd cq (nI_ge (by omega) (by omega))) (fun _ => ?_)
    have hxp := (X0.2.2 p hk1).1
    refine hz_aload_n (pc := 8) C dX11_kindAt_8 rfl ?_
    refine hz_getP (pc := 9) C (v := 152) ffX11_30 dX11_kindAt_9 hT146 hA146 rfl (hP146_8 q) (by decide) ?_
    refine hz_iload_n (pc := 12) C dX11_kindAt_12 rfl ?_
    refine hz_iald (pc := 13) C (v := nI (x p)) (j := p) dX11_kindAt_13 hT152 hA152 rfl (by omega) (by decide) (X0.2.2 p (by omega)).2 ?_
    refine hz_goto (pc := 14) C (tgt := 18) dX11_kindAt_14 rfl ?_
    refine hz_istore_n (pc := 18) C (ls' := [some (.ref 146), some (.int (nI p)), some (.int (nI (x p)))]) dX11_kindAt_18 (Nat.le_of_ble_eq_true rfl) rfl ?_
    refine hz_iload_n (pc := 19) C dX11_kindAt_19 rfl ?_
    refine hz_bipush (pc := 20) C (v := nI 97) dX11_kindAt_20 (by decide +kernel) ?_
    refine hz_bipush (pc := 22) C (v := nI 122) dX11_kindAt_22 (by decide +kernel) ?_
    refine hz_callSs (pc := 24) C (as := [.int (nI (x p)), .int (nI 97), .int (nI 122)]) (st := []) (ev_in _ (nI (x p)) (nI 97) (nI 122)) (hz_new0 _ _) fyX11_in fsX11_52 rfl dX11_kindAt_24 rfl rfl (Nat.le_of_ble_eq_true rfl) (by decide) (hz_cap0 _) ?_
    refine hz_ifb_eq (pc := 27) C (tgt := 34) dX11_kindAt_27 rfl (fun zzc1 => ?_) (fun zzc1 => ?_)
    · refine hz_iload_n (pc := 34) C dX11_kindAt_34 rfl ?_
      refine hz_bipush (pc := 35) C (v := nI 48) dX11_kindAt_35 (by decide +kernel) ?_
      refine hz_bipush (pc := 37) C (v := nI 57) dX11_kindAt_37 (by decide +kernel) ?_
      refine hz_callSs (pc := 39) C (as := [.int (nI (x p)), .int (nI 48), .int (nI 57)]) (st := []) (ev_in _ (nI (x p)) (nI 48) (nI 57)) (hz_new0 _ _) fyX11_in fsX11_52 rfl dX11_kindAt_39 rfl rfl (Nat.le_of_ble_eq_true rfl) (by decide) (hz_cap0 _) ?_
      refine hz_ifb_eq (pc := 42) C (tgt := 49) dX11_kindAt_42 rfl (fun zzc2 => ?_) (fun zzc2 => ?_)
      · refine hz_iconst (pc := 49) C (v := nI 0) dX11_kindAt_49 (by decide +kernel) ?_
        exact hz_iret C Z rfl dX11_kindAt_50 (by unfold kd; rw [if_neg (fun z => zzc1 ⟨nI_nlt z.2.1 (by omega), nI_nlt z.2.2 (by omega)⟩), if_neg (fun z => zzc2 ⟨nI_nlt z.2.1 (by omega), nI_nlt z.2.2 (by omega)⟩)]) rfl
      · refine hz_iconst (pc := 45) C (v := nI 2) dX11_kindAt_45 (by decide +kernel) ?_
        refine hz_goto (pc := 46) C (tgt := 50) dX11_kindAt_46 rfl ?_
        exact hz_iret C Z rfl dX11_kindAt_50 (by unfold kd; rw [if_neg (fun z => zzc1 ⟨nI_nlt z.2.1 (by omega), nI_nlt z.2.2 (by omega)⟩), if_pos ⟨hk1, Nat.le_of_not_lt fun z => zzc2.1 (nI_lt z (by omega)), Nat.le_of_not_lt fun z => zzc2.2 (nI_lt z (by omega))⟩]) rfl
    · refine hz_iconst (pc := 30) C (v := nI 1) dX11_kindAt_30 (by decide +kernel) ?_
      refine hz_goto (pc := 31) C (tgt := 50) dX11_kindAt_31 rfl ?_
      exact hz_iret C Z rfl dX11_kindAt_50 (by unfold kd; rw [if_pos ⟨hk1, Nat.le_of_not_lt fun z => zzc1.1 (nI_lt z (by omega)), Nat.le_of_not_lt fun z => zzc1.2 (nI_lt z (by omega))⟩]) rfl
  · refine hz_iload_n (pc := 0) C dX11_kindAt_0 rfl ?_
    refine hz_aload_n (pc := 1) C dX11_kindAt_1 rfl ?_
    refine hz_getI (pc := 2) C (v := nI t) ffX11_71 dX11_kindAt_2 hT146 hA146 rfl X0.2.1 ?_
    refine hz_ic_ge (pc := 5) C (tgt := 17) dX11_kindAt_5 rfl (fun _ => ?_) (fun cq => absurd (nI_le (by omega) (by omega)) cq)
    refine hz_iconst (pc := 17) C (v := nI 0) dX11_kindAt_17 (by decide +kernel) ?_
    refine hz_istore_n (pc := 18) C (ls' := [some (.ref 146), some (.int (nI p)), some (.int (nI 0))]) dX11_kindAt_18 (Nat.le_of_ble_eq_true rfl) rfl ?_
    refine hz_iload_n (pc := 19) C dX11_kindAt_19 rfl ?_
    refine hz_bipush (pc := 20) C (v := nI 97) dX11_kindAt_20 (by decide +kernel) ?_
    refine hz_bipush (pc := 22) C (v := nI 122) dX11_kindAt_22 (by decide +kernel) ?_
    refine hz_callSs (pc := 24) C (as := [.int (nI 0), .int (nI 97), .int (nI 122)]) (st := []) (ev_in _ (nI 0) (nI 97) (nI 122)) (hz_new0 _ _) fyX11_in fsX11_52 rfl dX11_kindAt_24 rfl rfl (Nat.le_of_ble_eq_true rfl) (by decide) (hz_cap0 _) ?_
    refine hz_ifb_eq (pc := 27) C (tgt := 34) dX11_kindAt_27 rfl (fun _ => ?_) (fun cq => absurd cq (by decide +kernel))
    refine hz_iload_n (pc := 34) C dX11_kindAt_34 rfl ?_
    refine hz_bipush (pc := 35) C (v := nI 48) dX11_kindAt_35 (by decide +kernel) ?_
    refine hz_bipush (pc := 37) C (v := nI 57) dX11_kindAt_37 (by decide +kernel) ?_
    refine hz_callSs (pc := 39) C (as := [.int (nI 0), .int (nI 48), .int (nI 57)]) (st := []) (ev_in _ (nI 0) (nI 48) (nI 57)) (hz_new0 _ _) fyX11_in fsX11_52 rfl dX11_kindAt_39 rfl rfl (Nat.le_of_ble_eq_true rfl) (by decide) (hz_cap0 _) ?_
    refine hz_ifb_eq (pc := 42) C (tgt := 49) dX11_kindAt_42 rfl (fun _ => ?_) (fun cq => absurd cq (by decide +kernel))
    refine hz_iconst (pc := 49) C (v := nI 0) dX11_kindAt_49 (by decide +kernel) ?_
    exact hz_iret C Z rfl dX11_kindAt_50 (by unfold kd; rw [if_neg (fun z => hk1 z.1), if_neg (fun z => hk1 z.1)]) rfl
set_option maxHeartbeats 4000000 in
set_option maxRecDepth 100000 in
theorem lp_sp {X : hz_X} (C : hz_C X mX11_nextToken) {J : Nat → Nat → Int32} {L : Nat → Nat → Int64} {q : Nat → Nat → Nat} {t : Nat} {x : Nat → Nat} (X0 : mxt J t x) {s : Nat} (kk : ∀ K, mC J K → K 146 9 = nI (bgn t x s) → hz_G X TT NN (K, L, PP q) 0 0 38 [some (.ref 146), none] []) : ∀ (n i : Nat) (K : Nat → Nat → Int32), i + n = t → (mC J K ∧ K 146 9 = nI i ∧ bgn t x s = rn t x 32 32 i) → hz_G X TT NN (K, L, PP q) 0 0 0 [some (.ref 146), none] [] := by
  intro n
  induction n with
  | zero =>
    intro i K hi hf
    obtain rfl : t = i := by omega
    have X1 := hf.1.mxt X0
    have h150 := X0.1
    refine hz_aload_n (pc := 0) C dX11_nextToken_0 rfl ?_
    refine hz_getI (pc := 1) C (v := nI t) ffX11_75 dX11_nextToken_1 hT146 hA146 rfl hf.2.1 ?_
    refine hz_aload_n (pc := 4) C dX11_nextToken_4 rfl ?_
    refine hz_getI (pc := 5) C (v := nI t) ffX11_71 dX11_nextToken_5 hT146 hA146 rfl X1.2.1 ?_
    refine hz_ic_ge (pc := 8) C (tgt := 38) dX11_nextToken_8 rfl (fun _ => ?_) (fun cq => absurd (nI_le (by omega) (by omega)) cq)
    exact kk K hf.1 (by rw [hf.2.1, hf.2.2, rn_e (by omega)])
  | succ n ih =>
    intro i K hi hf
    have X1 := hf.1.mxt X0
    have h150 := X0.1
    have hxi := (X0.2.2 i (by omega)).1
    refine hz_aload_n (pc := 0) C dX11_nextToken_0 rfl ?_
    refine hz_getI (pc := 1) C (v := nI i) ffX11_75 dX11_nextToken_1 hT146 hA146 rfl hf.2.1 ?_
    refine hz_aload_n (pc := 4) C dX11_nextToken_4 rfl ?_
    refine hz_getI (pc := 5) C (v := nI t) ffX11_71 dX11_nextToken_5 hT146 hA146 rfl X1.2.1 ?_
    refine hz_ic_ge (pc := 8) C (tgt := 38) dX11_nextToken_8 rfl (fun cq => absurd cq (nI_ge (by omega) (by omega))) (fun _ => ?_)
    refine hz_aload_n (pc := 11) C dX11_nextToken_11 rfl ?_
    refine hz_getP (pc := 12) C (v := 152) ffX11_30 dX11_nextToken_12 hT146 hA146 rfl (hP146_8 q) (by decide) ?_
    refine hz_aload_n (pc := 15) C dX11_nextToken_15 rfl ?_
    refine hz_getI (pc := 16) C (v := nI i) ffX11_75 dX11_nextToken_16 hT146 hA146 rfl hf.2.1 ?_
    refine hz_iald (pc := 19) C (v := nI (x i)) (j := i) dX11_nextToken_19 hT152 hA152 rfl (by omega) (by decide) (X1.2.2 i (by omega)).2 ?_
    refine hz_bipush (pc := 20) C (v := nI 32) dX11_nextToken_20 (by decide +kernel) ?_
    refine hz_ic_ne (pc := 22) C (tgt := 38) dX11_nextToken_22 rfl (fun zzc1 => ?_) (fun zzc1 => ?_)
    · exact kk K hf.1 (by rw [hf.2.1, hf.2.2, rn_e (fun z => zzc1 (congrArg nI (show x i = 32 by omega)))])
    · refine hz_aload_n (pc := 25) C dX11_nextToken_25 rfl ?_
      refine hz_dup (pc := 26) C dX11_nextToken_26 rfl ?_
      refine hz_getI (pc := 27) C (v := nI i) ffX11_75 dX11_nextToken_27 hT146 hA146 rfl hf.2.1 ?_
      refine hz_iconst (pc := 30) C (v := nI 1) dX11_nextToken_30 (by decide +kernel) ?_
      refine hz_iadd (pc := 31) C (v := nI (i + 1)) dX11_nextToken_31 (nI_add _ _) ?_
      refine hz_putI (pc := 32) C (M' := (hz_up K 146 9 (nI (i + 1)), L, PP q)) ffX11_75 dX11_nextToken_32 hT146 hA146 rfl rfl ⟨rfl, rfl⟩ rfl ?_
      refine hz_goto (pc := 35) C (tgt := 0) dX11_nextToken_35 rfl ?_
      exact ih (i + 1) _ (by omega) ⟨hf.1.up (by decide) (by decide) _, hz_up_self _ _ _ _, hf.2.2.trans (rn_s (by omega) (by have h9 := (nI_eq (by omega) (by omega)).mp zzc1; omega))⟩
def wn (x : Nat → Nat) (b : Nat) : Nat → Nat
  | 0 => 0
  | n + 1 => 256 * wn x b n + x (b + n)
def wv (x : Nat → Nat) (b n : Nat) : Int64 := if n ≤ 7 then lN (wn x b n) else -1
def nv (x : Nat → Nat) (b n : Nat) : Nat := if n = 0 then 0 else if n = 1 then x b - 48 else 10 * (x b - 48) + (x (b + 1) - 48)
theorem wv_s {x : Nat → Nat} {b i : Nat} (hb : b ≤ i) (h : i - b < 7) : lN (256 * wn x b (i - b) + x i) = wv x b (i + 1 - b) := by
  unfold wv
  rw [if_pos (by omega), show i + 1 - b = (i - b) + 1 by omega]
  show _ = lN (256 * wn x b (i - b) + x (b + (i - b)))
  rw [show b + (i - b) = i by omega]
theorem wv_l {x : Nat → Nat} {b i : Nat} (hb : b ≤ i) (h : ¬ i - b < 7) : (-1 : Int64) = wv x b (i + 1 - b) := by
  unfold wv
  rw [if_neg (by omega)]
theorem nv_s {x : Nat → Nat} {b i : Nat} (hb : b ≤ i) (h : i - b < 2) (hd : 48 ≤ x i) : nI (10 * nv x b (i - b) + x i - 48) = nI (nv x b (i + 1 - b)) := by
  refine congrArg nI ?_
  unfold nv
  by_cases e : i - b = 0
  · have zze2 : i = b := by omega
    subst zze2
    rw [if_pos (by omega), if_neg (by omega), if_pos (by omega)]; omega
  · have zze2 : i = b + 1 := by omega
    subst zze2
    rw [if_neg (by omega), if_pos (by omega), if_neg (by omega), if_neg (by omega)]; omega
theorem nv_l {x : Nat → Nat} {b i : Nat} (hb : b ≤ i) (h : ¬ i - b < 2) : nv x b (i - b) = nv x b (i + 1 - b) := by
  unfold nv
  rw [if_neg (by omega), if_neg (by omega), if_neg (by omega), if_neg (by omega)]
theorem nv_b {x : Nat → Nat} (b n : Nat) (h : ∀ j, b ≤ j → j < b + n → x j < 128) : nv x b n ≤ 1000 := by
  unfold nv
  split
  · omega
  · split
    · have := h b (by omega) (by omega); omega
    · have := h b (by omega) (by omega); have := h (b + 1) (by omega) (by omega); omega
theorem kd_1 {t : Nat} {x : Nat → Nat} {p : Nat} : kd t x p = 1 ↔ p < t ∧ 97 ≤ x p ∧ x p ≤ 122 := by
  unfold kd
  refine ⟨fun h => ?_, fun h => if_pos h⟩
  by_cases z : p < t ∧ 97 ≤ x p ∧ x p ≤ 122
  · exact z
  · rw [if_neg z] at h; split at h <;> omega
theorem kd_2 {t : Nat} {x : Nat → Nat} {p : Nat} : kd t x p = 2 ↔ p < t ∧ 48 ≤ x p ∧ x p ≤ 57 := by
  unfold kd
  refine ⟨fun h => ?_, fun h => ?_⟩
  · split at h
    · omega
    · split at h
      · assumption
      · omega
  · rw [if_neg (by omega), if_pos h]
theorem kd_le (t : Nat) (x : Nat → Nat) (p : Nat) : kd t x p ≤ 2 := by
  unfold kd
  split
  · omega
  · split <;> omega
set_option maxHeartbeats 4000000 in
set_option maxRecDepth 100000 in
theorem lp_lt {X : hz_X} (C : hz_C X mX11_nextToken) {J : Nat → Nat → Int32} {L : Nat → Nat → Int64} {q : Nat → Nat → Nat} {t : Nat} {x : Nat → Nat} (X0 : mxt J t x) {b : Nat} (kk : ∀ (K : Nat → Nat → Int32) (W : Nat → Nat → Int64) (zzw1 : Option Value), mC J K → wC L W → K 146 9 = nI (rn t x 97 122 b) → K 146 10 = nI b → K 146 11 = nI 1 → W 146 13 = wv x b (rn t x 97 122 b - b) → hz_G X TT NN (K, W, PP q) 0 0 235 [some (.ref 146), zzw1] []) : ∀ (n i : Nat) (K : Nat → Nat → Int32) (W : Nat → Nat → Int64) (zzw1 : Option Value), i + n = t → (mC J K ∧ wC L W ∧ K 146 9 = nI i ∧ K 146 10 = nI b ∧ K 146 11 = nI 1 ∧ W 146 13 = wv x b (i - b) ∧ rn t x 97 122 b = rn t x 97 122 i ∧ b ≤ i) → hz_G X TT NN (K, W, PP q) 0 0 126 [some (.ref 146), zzw1] [] := by
  intro n
  induction n with
  | zero =>
    intro i K W zzw1 hi hf
    obtain rfl : t = i := by omega
    obtain ⟨hm, hw, hp9, hA, hT, hv, hr, hb⟩ := hf
    have X1 := hm.mxt X0
    have h150 := X0.1
    have hkd : kd t x t = 0 := by unfold kd; rw [if_neg (by omega), if_neg (by omega)]
    refine hz_aload_n (pc := 126) C dX11_nextToken_126 rfl ?_
    refine hz_aload_n (pc := 127) C dX11_nextToken_127 rfl ?_
    refine hz_getI (pc := 128) C (v := nI t) ffX11_75 dX11_nextToken_128 hT146 hA146 rfl hp9 ?_
    refine hz_callVs (pc := 131) C (as := [.int (nI t)]) (st := []) (ev_kindAt X1 (p := t) (by omega)) (hz_new0 _ _) fyX11_kindAt fvX11_90 rfl dX11_nextToken_131 hT146 rfl rfl hA146 rfl rfl (Nat.le_of_ble_eq_true rfl) (by decide) (hz_cap0 _) ?_
    refine hz_aload_n (pc := 134) C dX11_nextToken_134 rfl ?_
    refine hz_getI (pc := 135) C (v := nI 1) ffX11_87 dX11_nextToken_135 hT146 hA146 rfl hT ?_
    refine hz_ic_ne (pc := 138) C (tgt := 235) dX11_nextToken_138 rfl (fun _ => ?_) (fun cq => absurd ((nI_eq (by omega) (by omega)).mp cq) (by omega))
    exact kk K W zzw1 hm hw (by rw [hp9, hr, rn_e (by omega)]) hA hT (by rw [hr, rn_e (by omega)]; exact hv)
  | succ n ih =>
    intro i K W zzw1 hi hf
    obtain ⟨hm, hw, hp9, hA, hT, hv, hr, hb⟩ := hf
    have X1 := hm.mxt X0
    have h150 := X0.1
    have hxi := (X0.2.2 i (by omega)).1
    have hkl := kd_le t x i
    refine hz_aload_n (pc := 126) C dX11_nextToken_126 rfl ?_
    refine hz_aload_n (pc := 127) C dX11_nextToken_127 rfl ?_
    refine hz_getI (pc := 128) C (v := nI i) ffX11_75 dX11_nextToken_128 hT146 hA146 rfl hp9 ?_
    refine hz_callVs (pc := 131) C (as := [.int (nI i)]) (st := []) (ev_kindAt X1 (p := i) (by omega)) (hz_new0 _ _) fyX11_kindAt fvX11_90 rfl dX11_nextToken_131 hT146 rfl rfl hA146 rfl rfl (Nat.le_of_ble_eq_true rfl) (by decide) (hz_cap0 _) ?_
    by_cases hk1 : kd t x i = 1
    · refine hz_aload_n (pc := 134) C dX11_nextToken_134 rfl ?_
      refine hz_getI (pc := 135) C (v := nI 1) ffX11_87 dX11_nextToken_135 hT146 hA146 rfl hT ?_
      refine hz_ic_ne (pc := 138) C (tgt := 235) dX11_nextToken_138 rfl (fun cq => absurd ((nI_eq (by omega) (by omega)).mpr (by omega)) cq) (fun _ => ?_)
      have hd := kd_1.mp hk1
      refine hz_aload_n (pc := 141) C dX11_nextToken_141 rfl ?_
      refine hz_getI (pc := 142) C (v := nI i) ffX11_75 dX11_nextToken_142 hT146 hA146 rfl hp9 ?_
      refine hz_aload_n (pc := 145) C dX11_nextToken_145 rfl ?_
      refine hz_getI (pc := 146) C (v := nI b) ffX11_78 dX11_nextToken_146 hT146 hA146 rfl hA ?_
      refine hz_isub (pc := 149) C (v := nI (i - b)) dX11_nextToken_149 (pk_sub (by omega)) ?_
      refine hz_istore_n (pc := 150) C (ls' := [some (.ref 146), some (.int (nI (i - b)))]) dX11_nextToken_150 (Nat.le_of_ble_eq_true rfl) rfl ?_
      by_cases hk2 : i - b < 7
      · refine hz_aload_n (pc := 151) C dX11_nextToken_151 rfl ?_
        refine hz_iload_n (pc := 152) C dX11_nextToken_152 rfl ?_
        refine hz_bipush (pc := 153) C (v := nI 7) dX11_nextToken_153 (by decide +kernel) ?_
        refine hz_ic_ge (pc := 155) C (tgt := 180) dX11_nextToken_155 rfl (fun cq => absurd cq (nI_ge (by omega) (by omega))) (fun _ => ?_)
        refine hz_ldc2 (pc := 158) C (v := lN 256) dX11_nextToken_158 (hz_mp 1011 (by decide +kernel)) ?_
        refine hz_aload_n (pc := 161) C dX11_nextToken_161 rfl ?_
        refine hz_getL (pc := 162) C (v := lN (wn x b (i - b))) ffX11_81 dX11_nextToken_162 hT146 hA146 rfl (hv.trans (if_pos (by omega))) ?_
        refine hz_lmul (pc := 165) C (v := lN (256 * (wn x b (i - b)))) dX11_nextToken_165 (lN_mul _ _) ?_
        refine hz_aload_n (pc := 166) C dX11_nextToken_166 rfl ?_
        refine hz_getP (pc := 167) C (v := 152) ffX11_30 dX11_nextToken_167 hT146 hA146 rfl (hP146_8 q) (by decide) ?_
        refine hz_aload_n (pc := 170) C dX11_nextToken_170 rfl ?_
        refine hz_getI (pc := 171) C (v := nI i) ffX11_75 dX11_nextToken_171 hT146 hA146 rfl hp9 ?_
        refine hz_iald (pc := 174) C (v := nI (x i)) (j := i) dX11_nextToken_174 hT152 hA152 rfl (by omega) (by decide) (X1.2.2 i (by omega)).2 ?_
        refine hz_i2l (pc := 175) C (v := lN (x i)) dX11_nextToken_175 (nI_l (by omega)) ?_
        refine hz_ladd (pc := 176) C (v := lN ((256 * (wn x b (i - b))) + (x i))) dX11_nextToken_176 (lN_add _ _) ?_
        refine hz_goto (pc := 177) C (tgt := 183) dX11_nextToken_177 rfl ?_
        refine hz_putL (pc := 183) C (M' := (K, hz_up W 146 13 (lN ((256 * (wn x b (i - b))) + (x i))), PP q)) ffX11_81 dX11_nextToken_183 hT146 hA146 rfl rfl (fun _ => ⟨rfl, rfl⟩) rfl ?_
        refine hz_aload_n (pc := 186) C dX11_nextToken_186 rfl ?_
        refine hz_iload_n (pc := 187) C dX11_nextToken_187 rfl ?_
        refine hz_iconst (pc := 188) C (v := nI 2) dX11_nextToken_188 (by decide +kernel) ?_
        refine hz_ic_ge (pc := 189) C (tgt := 215) dX11_nextToken_189 rfl (fun zzc1 => ?_) (fun zzc1 => ?_)
        · refine hz_aload_n (pc := 215) C dX11_nextToken_215 rfl ?_
          refine hz_getI (pc := 216) C (v := K 146 12) ffX11_84 dX11_nextToken_216 hT146 hA146 rfl rfl ?_
          refine hz_putI (pc := 219) C (M' := (hz_up K 146 12 (K 146 12), hz_up W 146 13 (lN ((256 * (wn x b (i - b))) + (x i))), PP q)) ffX11_84 dX11_nextToken_219 hT146 hA146 rfl rfl ⟨rfl, rfl⟩ rfl ?_
          refine hz_aload_n (pc := 222) C dX11_nextToken_222 rfl ?_
          refine hz_dup (pc := 223) C dX11_nextToken_223 rfl ?_
          refine hz_getI (pc := 224) C (v := nI i) ffX11_75 dX11_nextToken_224 hT146 hA146 rfl (by simp (disch := omega) only [hz_up_eq, hz_up_ne, va_up_ne, va_up_self]; exact hp9) ?_
          refine hz_iconst (pc := 227) C (v := nI 1) dX11_nextToken_227 (by decide +kernel) ?_
          refine hz_iadd (pc := 228) C (v := nI (i + 1)) dX11_nextToken_228 (nI_add _ _) ?_
          refine hz_putI (pc := 229) C (M' := (hz_up (hz_up K 146 12 (K 146 12)) 146 9 (nI (i + 1)), hz_up W 146 13 (lN ((256 * (wn x b (i - b))) + (x i))), PP q)) ffX11_75 dX11_nextToken_229 hT146 hA146 rfl rfl ⟨rfl, rfl⟩ rfl ?_
          refine hz_goto (pc := 232) C (tgt := 126) dX11_nextToken_232 rfl ?_
          exact ih (i + 1) _ _ (some (.int (nI (i - b)))) (by omega) ⟨(hm.up (k := 12) (by decide) (by decide) _).up (by decide) (by decide) _, hw.up _, hz_up_self _ _ _ _, by simp (disch := omega) only [hz_up_eq, hz_up_ne, va_up_ne, va_up_self]; exact hA, by simp (disch := omega) only [hz_up_eq, hz_up_ne, va_up_ne, va_up_self]; exact hT, (hz_up_self _ _ _ _).trans (wv_s hb hk2), hr.trans (rn_s (by omega) hd.2), by omega⟩
        · refine hz_bipush (pc := 192) C (v := nI 10) dX11_nextToken_192 (by decide +kernel) ?_
          refine hz_aload_n (pc := 194) C dX11_nextToken_194 rfl ?_
          refine hz_getI (pc := 195) C (v := K 146 12) ffX11_84 dX11_nextToken_195 hT146 hA146 rfl rfl ?_
          refine hz_imul (pc := 198) C dX11_nextToken_198 rfl ?_
          refine hz_aload_n (pc := 199) C dX11_nextToken_199 rfl ?_
          refine hz_getP (pc := 200) C (v := 152) ffX11_30 dX11_nextToken_200 hT146 hA146 rfl (hP146_8 q) (by decide) ?_
          refine hz_aload_n (pc := 203) C dX11_nextToken_203 rfl ?_
          refine hz_getI (pc := 204) C (v := nI i) ffX11_75 dX11_nextToken_204 hT146 hA146 rfl hp9 ?_
          refine hz_iald (pc := 207) C (v := nI (x i)) (j := i) dX11_nextToken_207 hT152 hA152 rfl (by omega) (by decide) (X1.2.2 i (by omega)).2 ?_
          refine hz_iadd (pc := 208) C dX11_nextToken_208 rfl ?_
          refine hz_bipush (pc := 209) C (v := nI 48) dX11_nextToken_209 (by decide +kernel) ?_
          refine hz_isub (pc := 211) C (v := (((nI 10) * (K 146 12)) + (nI (x i))) - (nI 48)) dX11_nextToken_211 rfl ?_
          refine hz_goto (pc := 212) C (tgt := 219) dX11_nextToken_212 rfl ?_
          refine hz_putI (pc := 219) C (M' := (hz_up K 146 12 ((((nI 10) * (K 146 12)) + (nI (x i))) - (nI 48)), hz_up W 146 13 (lN ((256 * (wn x b (i - b))) + (x i))), PP q)) ffX11_84 dX11_nextToken_219 hT146 hA146 rfl rfl ⟨rfl, rfl⟩ rfl ?_
          refine hz_aload_n (pc := 222) C dX11_nextToken_222 rfl ?_
          refine hz_dup (pc := 223) C dX11_nextToken_223 rfl ?_
          refine hz_getI (pc := 224) C (v := nI i) ffX11_75 dX11_nextToken_224 hT146 hA146 rfl (by simp (disch := omega) only [hz_up_eq, hz_up_ne, va_up_ne, va_up_self]; exact hp9) ?_
          refine hz_iconst (pc := 227) C (v := nI 1) dX11_nextToken_227 (by decide +kernel) ?_
          refine hz_iadd (pc := 228) C (v := nI (i + 1)) dX11_nextToken_228 (nI_add _ _) ?_
          refine hz_putI (pc := 229) C (M' := (hz_up (hz_up K 146 12 ((((nI 10) * (K 146 12)) + (nI (x i))) - (nI 48))) 146 9 (nI (i + 1)), hz_up W 146 13 (lN ((256 * (wn x b (i - b))) + (x i))), PP q)) ffX11_75 dX11_nextToken_229 hT146 hA146 rfl rfl ⟨rfl, rfl⟩ rfl ?_
          refine hz_goto (pc := 232) C (tgt := 126) dX11_nextToken_232 rfl ?_
          exact ih (i + 1) _ _ (some (.int (nI (i - b)))) (by omega) ⟨(hm.up (k := 12) (by decide) (by decide) _).up (by decide) (by decide) _, hw.up _, hz_up_self _ _ _ _, by simp (disch := omega) only [hz_up_eq, hz_up_ne, va_up_ne, va_up_self]; exact hA, by simp (disch := omega) only [hz_up_eq, hz_up_ne, va_up_ne, va_up_self]; exact hT, (hz_up_self _ _ _ _).trans (wv_s hb hk2), hr.trans (rn_s (by omega) hd.2), by omega⟩
      · refine hz_aload_n (pc := 151) C dX11_nextToken_151 rfl ?_
        refine hz_iload_n (pc := 152) C dX11_nextToken_152 rfl ?_
        refine hz_bipush (pc := 153) C (v := nI 7) dX11_nextToken_153 (by decide +kernel) ?_
        refine hz_ic_ge (pc := 155) C (tgt := 180) dX11_nextToken_155 rfl (fun _ => ?_) (fun cq => absurd (nI_le (by omega) (by omega)) cq)
        refine hz_ldc2 (pc := 180) C (v := -1) dX11_nextToken_180 (hz_mp 1012 (by decide +kernel)) ?_
        refine hz_putL (pc := 183) C (M' := (K, hz_up W 146 13 (-1 : Int64), PP q)) ffX11_81 dX11_nextToken_183 hT146 hA146 rfl rfl (fun _ => ⟨rfl, rfl⟩) rfl ?_
        refine hz_aload_n (pc := 186) C dX11_nextToken_186 rfl ?_
        refine hz_iload_n (pc := 187) C dX11_nextToken_187 rfl ?_
        refine hz_iconst (pc := 188) C (v := nI 2) dX11_nextToken_188 (by decide +kernel) ?_
        refine hz_ic_ge (pc := 189) C (tgt := 215) dX11_nextToken_189 rfl (fun zzc2 => ?_) (fun zzc2 => ?_)
        · refine hz_aload_n (pc := 215) C dX11_nextToken_215 rfl ?_
          refine hz_getI (pc := 216) C (v := K 146 12) ffX11_84 dX11_nextToken_216 hT146 hA146 rfl rfl ?_
          refine hz_putI (pc := 219) C (M' := (hz_up K 146 12 (K 146 12), hz_up W 146 13 (-1 : Int64), PP q)) ffX11_84 dX11_nextToken_219 hT146 hA146 rfl rfl ⟨rfl, rfl⟩ rfl ?_
          refine hz_aload_n (pc := 222) C dX11_nextToken_222 rfl ?_
          refine hz_dup (pc := 223) C dX11_nextToken_223 rfl ?_
          refine hz_getI (pc := 224) C (v := nI i) ffX11_75 dX11_nextToken_224 hT146 hA146 rfl (by simp (disch := omega) only [hz_up_eq, hz_up_ne, va_up_ne, va_up_self]; exact hp9) ?_
          refine hz_iconst (pc := 227) C (v := nI 1) dX11_nextToken_227 (by decide +kernel) ?_
          refine hz_iadd (pc := 228) C (v := nI (i + 1)) dX11_nextToken_228 (nI_add _ _) ?_
          refine hz_putI (pc := 229) C (M' := (hz_up (hz_up K 146 12 (K 146 12)) 146 9 (nI (i + 1)), hz_up W 146 13 (-1 : Int64), PP q)) ffX11_75 dX11_nextToken_229 hT146 hA146 rfl rfl ⟨rfl, rfl⟩ rfl ?_
          refine hz_goto (pc := 232) C (tgt := 126) dX11_nextToken_232 rfl ?_
          exact ih (i + 1) _ _ (some (.int (nI (i - b)))) (by omega) ⟨(hm.up (k := 12) (by decide) (by decide) _).up (by decide) (by decide) _, hw.up _, hz_up_self _ _ _ _, by simp (disch := omega) only [hz_up_eq, hz_up_ne, va_up_ne, va_up_self]; exact hA, by simp (disch := omega) only [hz_up_eq, hz_up_ne, va_up_ne, va_up_self]; exact hT, (hz_up_self _ _ _ _).trans (wv_l hb hk2), hr.trans (rn_s (by omega) hd.2), by omega⟩
        · refine hz_bipush (pc := 192) C (v := nI 10) dX11_nextToken_192 (by decide +kernel) ?_
          refine hz_aload_n (pc := 194) C dX11_nextToken_194 rfl ?_
          refine hz_getI (pc := 195) C (v := K 146 12) ffX11_84 dX11_nextToken_195 hT146 hA146 rfl rfl ?_
          refine hz_imul (pc := 198) C dX11_nextToken_198 rfl ?_
          refine hz_aload_n (pc := 199) C dX11_nextToken_199 rfl ?_
          refine hz_getP (pc := 200) C (v := 152) ffX11_30 dX11_nextToken_200 hT146 hA146 rfl (hP146_8 q) (by decide) ?_
          refine hz_aload_n (pc := 203) C dX11_nextToken_203 rfl ?_
          refine hz_getI (pc := 204) C (v := nI i) ffX11_75 dX11_nextToken_204 hT146 hA146 rfl hp9 ?_
          refine hz_iald (pc := 207) C (v := nI (x i)) (j := i) dX11_nextToken_207 hT152 hA152 rfl (by omega) (by decide) (X1.2.2 i (by omega)).2 ?_
          refine hz_iadd (pc := 208) C dX11_nextToken_208 rfl ?_
          refine hz_bipush (pc := 209) C (v := nI 48) dX11_nextToken_209 (by decide +kernel) ?_
          refine hz_isub (pc := 211) C (v := (((nI 10) * (K 146 12)) + (nI (x i))) - (nI 48)) dX11_nextToken_211 rfl ?_
          refine hz_goto (pc := 212) C (tgt := 219) dX11_nextToken_212 rfl ?_
          refine hz_putI (pc := 219) C (M' := (hz_up K 146 12 ((((nI 10) * (K 146 12)) + (nI (x i))) - (nI 48)), hz_up W 146 13 (-1 : Int64), PP q)) ffX11_84 dX11_nextToken_219 hT146 hA146 rfl rfl ⟨rfl, rfl⟩ rfl ?_
          refine hz_aload_n (pc := 222) C dX11_nextToken_222 rfl ?_
          refine hz_dup (pc := 223) C dX11_nextToken_223 rfl ?_
          refine hz_getI (pc := 224) C (v := nI i) ffX11_75 dX11_nextToken_224 hT146 hA146 rfl (by simp (disch := omega) only [hz_up_eq, hz_up_ne, va_up_ne, va_up_self]; exact hp9) ?_
          refine hz_iconst (pc := 227) C (v := nI 1) dX11_nextToken_227 (by decide +kernel) ?_
          refine hz_iadd (pc := 228) C (v := nI (i + 1)) dX11_nextToken_228 (nI_add _ _) ?_
          refine hz_putI (pc := 229) C (M' := (hz_up (hz_up K 146 12 ((((nI 10) * (K 146 12)) + (nI (x i))) - (nI 48))) 146 9 (nI (i + 1)), hz_up W 146 13 (-1 : Int64), PP q)) ffX11_75 dX11_nextToken_229 hT146 hA146 rfl rfl ⟨rfl, rfl⟩ rfl ?_
          refine hz_goto (pc := 232) C (tgt := 126) dX11_nextToken_232 rfl ?_
          exact ih (i + 1) _ _ (some (.int (nI (i - b)))) (by omega) ⟨(hm.up (k := 12) (by decide) (by decide) _).up (by decide) (by decide) _, hw.up _, hz_up_self _ _ _ _, by simp (disch := omega) only [hz_up_eq, hz_up_ne, va_up_ne, va_up_self]; exact hA, by simp (disch := omega) only [hz_up_eq, hz_up_ne, va_up_ne, va_up_self]; exact hT, (hz_up_self _ _ _ _).trans (wv_l hb hk2), hr.trans (rn_s (by omega) hd.2), by omega⟩
    · refine hz_aload_n (pc := 134) C dX11_nextToken_134 rfl ?_
      refine hz_getI (pc := 135) C (v := nI 1) ffX11_87 dX11_nextToken_135 hT146 hA146 rfl hT ?_
      refine hz_ic_ne (pc := 138) C (tgt := 235) dX11_nextToken_138 rfl (fun _ => ?_) (fun cq => absurd ((nI_eq (by omega) (by omega)).mp cq) (by omega))
      exact kk K W zzw1 hm hw (by rw [hp9, hr, rn_e (fun z => hk1 (kd_1.mpr z))]) hA hT (by rw [hr, rn_e (fun z => hk1 (kd_1.mpr z))]; exact hv)
set_option maxHeartbeats 4000000 in
set_option maxRecDepth 100000 in
theorem lp_fg {X : hz_X} (C : hz_C X mX11_nextToken) {J : Nat → Nat → Int32} {L : Nat → Nat → Int64} {q : Nat → Nat → Nat} {t : Nat} {x : Nat → Nat} (X0 : mxt J t x) {b : Nat} (kk : ∀ (K : Nat → Nat → Int32) (W : Nat → Nat → Int64) (zzw1 : Option Value), mC J K → wC L W → K 146 9 = nI (rn t x 48 57 b) → K 146 10 = nI b → K 146 11 = nI 2 → K 146 12 = nI (nv x b (rn t x 48 57 b - b)) → hz_G X TT NN (K, W, PP q) 0 0 235 [some (.ref 146), zzw1] []) : ∀ (n i : Nat) (K : Nat → Nat → Int32) (W : Nat → Nat → Int64) (zzw1 : Option Value), i + n = t → (mC J K ∧ wC L W ∧ K 146 9 = nI i ∧ K 146 10 = nI b ∧ K 146 11 = nI 2 ∧ K 146 12 = nI (nv x b (i - b)) ∧ rn t x 48 57 b = rn t x 48 57 i ∧ b ≤ i) → hz_G X TT NN (K, W, PP q) 0 0 126 [some (.ref 146), zzw1] [] := by
  intro n
  induction n with
  | zero =>
    intro i K W zzw1 hi hf
    obtain rfl : t = i := by omega
    obtain ⟨hm, hw, hp9, hA, hT, hv, hr, hb⟩ := hf
    have X1 := hm.mxt X0
    have h150 := X0.1
    have hkd : kd t x t = 0 := by unfold kd; rw [if_neg (by omega), if_neg (by omega)]
    refine hz_aload_n (pc := 126) C dX11_nextToken_126 rfl ?_
    refine hz_aload_n (pc := 127) C dX11_nextToken_127 rfl ?_
    refine hz_getI (pc := 128) C (v := nI t) ffX11_75 dX11_nextToken_128 hT146 hA146 rfl hp9 ?_
    refine hz_callVs (pc := 131) C (as := [.int (nI t)]) (st := []) (ev_kindAt X1 (p := t) (by omega)) (hz_new0 _ _) fyX11_kindAt fvX11_90 rfl dX11_nextToken_131 hT146 rfl rfl hA146 rfl rfl (Nat.le_of_ble_eq_true rfl) (by decide) (hz_cap0 _) ?_
    refine hz_aload_n (pc := 134) C dX11_nextToken_134 rfl ?_
    refine hz_getI (pc := 135) C (v := nI 2) ffX11_87 dX11_nextToken_135 hT146 hA146 rfl hT ?_
    refine hz_ic_ne (pc := 138) C (tgt := 235) dX11_nextToken_138 rfl (fun _ => ?_) (fun cq => absurd ((nI_eq (by omega) (by omega)).mp cq) (by omega))
    exact kk K W zzw1 hm hw (by rw [hp9, hr, rn_e (by omega)]) hA hT (by rw [hr, rn_e (by omega)]; exact hv)
  | succ n ih =>
    intro i K W zzw1 hi hf
    obtain ⟨hm, hw, hp9, hA, hT, hv, hr, hb⟩ := hf
    have X1 := hm.mxt X0
    have h150 := X0.1
    have hxi := (X0.2.2 i (by omega)).1
    have hkl := kd_le t x i
    have hnv : nv x b (i - b) ≤ 1000 := nv_b b (i - b) (fun j h1 h2 => (X0.2.2 j (by omega)).1)
    refine hz_aload_n (pc := 126) C dX11_nextToken_126 rfl ?_
    refine hz_aload_n (pc := 127) C dX11_nextToken_127 rfl ?_
    refine hz_getI (pc := 128) C (v := nI i) ffX11_75 dX11_nextToken_128 hT146 hA146 rfl hp9 ?_
    refine hz_callVs (pc := 131) C (as := [.int (nI i)]) (st := []) (ev_kindAt X1 (p := i) (by omega)) (hz_new0 _ _) fyX11_kindAt fvX11_90 rfl dX11_nextToken_131 hT146 rfl rfl hA146 rfl rfl (Nat.le_of_ble_eq_true rfl) (by decide) (hz_cap0 _) ?_
    by_cases hk1 : kd t x i = 2
    · refine hz_aload_n (pc := 134) C dX11_nextToken_134 rfl ?_
      refine hz_getI (pc := 135) C (v := nI 2) ffX11_87 dX11_nextToken_135 hT146 hA146 rfl hT ?_
      refine hz_ic_ne (pc := 138) C (tgt := 235) dX11_nextToken_138 rfl (fun cq => absurd ((nI_eq (by omega) (by omega)).mpr (by omega)) cq) (fun _ => ?_)
      have hd := kd_2.mp hk1
      refine hz_aload_n (pc := 141) C dX11_nextToken_141 rfl ?_
      refine hz_getI (pc := 142) C (v := nI i) ffX11_75 dX11_nextToken_142 hT146 hA146 rfl hp9 ?_
      refine hz_aload_n (pc := 145) C dX11_nextToken_145 rfl ?_
      refine hz_getI (pc := 146) C (v := nI b) ffX11_78 dX11_nextToken_146 hT146 hA146 rfl hA ?_
      refine hz_isub (pc := 149) C (v := nI (i - b)) dX11_nextToken_149 (pk_sub (by omega)) ?_
      refine hz_istore_n (pc := 150) C (ls' := [some (.ref 146), some (.int (nI (i - b)))]) dX11_nextToken_150 (Nat.le_of_ble_eq_true rfl) rfl ?_
      refine hz_aload_n (pc := 151) C dX11_nextToken_151 rfl ?_
      refine hz_iload_n (pc := 152) C dX11_nextToken_152 rfl ?_
      refine hz_bipush (pc := 153) C (v := nI 7) dX11_nextToken_153 (by decide +kernel) ?_
      refine hz_ic_ge (pc := 155) C (tgt := 180) dX11_nextToken_155 rfl (fun zzc1 => ?_) (fun zzc1 => ?_)
      · refine hz_ldc2 (pc := 180) C (v := -1) dX11_nextToken_180 (hz_mp 1012 (by decide +kernel)) ?_
        refine hz_putL (pc := 183) C (M' := (K, hz_up W 146 13 (-1 : Int64), PP q)) ffX11_81 dX11_nextToken_183 hT146 hA146 rfl rfl (fun _ => ⟨rfl, rfl⟩) rfl ?_
        by_cases hk2 : i - b < 2
        · refine hz_aload_n (pc := 186) C dX11_nextToken_186 rfl ?_
          refine hz_iload_n (pc := 187) C dX11_nextToken_187 rfl ?_
          refine hz_iconst (pc := 188) C (v := nI 2) dX11_nextToken_188 (by decide +kernel) ?_
          refine hz_ic_ge (pc := 189) C (tgt := 215) dX11_nextToken_189 rfl (fun cq => absurd cq (nI_ge (by omega) (by omega))) (fun _ => ?_)
          refine hz_bipush (pc := 192) C (v := nI 10) dX11_nextToken_192 (by decide +kernel) ?_
          refine hz_aload_n (pc := 194) C dX11_nextToken_194 rfl ?_
          refine hz_getI (pc := 195) C (v := nI (nv x b (i - b))) ffX11_84 dX11_nextToken_195 hT146 hA146 rfl hv ?_
          refine hz_imul (pc := 198) C (v := nI (10 * (nv x b (i - b)))) dX11_nextToken_198 (pk_mul _ _) ?_
          refine hz_aload_n (pc := 199) C dX11_nextToken_199 rfl ?_
          refine hz_getP (pc := 200) C (v := 152) ffX11_30 dX11_nextToken_200 hT146 hA146 rfl (hP146_8 q) (by decide) ?_
          refine hz_aload_n (pc := 203) C dX11_nextToken_203 rfl ?_
          refine hz_getI (pc := 204) C (v := nI i) ffX11_75 dX11_nextToken_204 hT146 hA146 rfl hp9 ?_
          refine hz_iald (pc := 207) C (v := nI (x i)) (j := i) dX11_nextToken_207 hT152 hA152 rfl (by omega) (by decide) (X1.2.2 i (by omega)).2 ?_
          refine hz_iadd (pc := 208) C (v := nI ((10 * (nv x b (i - b))) + (x i))) dX11_nextToken_208 (nI_add _ _) ?_
          refine hz_bipush (pc := 209) C (v := nI 48) dX11_nextToken_209 (by decide +kernel) ?_
          refine hz_isub (pc := 211) C (v := nI ((10 * (nv x b (i - b))) + (x i) - 48)) dX11_nextToken_211 (pk_sub (by omega)) ?_
          refine hz_goto (pc := 212) C (tgt := 219) dX11_nextToken_212 rfl ?_
          refine hz_putI (pc := 219) C (M' := (hz_up K 146 12 (nI ((10 * (nv x b (i - b))) + (x i) - 48)), hz_up W 146 13 (-1 : Int64), PP q)) ffX11_84 dX11_nextToken_219 hT146 hA146 rfl rfl ⟨rfl, rfl⟩ rfl ?_
          refine hz_aload_n (pc := 222) C dX11_nextToken_222 rfl ?_
          refine hz_dup (pc := 223) C dX11_nextToken_223 rfl ?_
          refine hz_getI (pc := 224) C (v := nI i) ffX11_75 dX11_nextToken_224 hT146 hA146 rfl (by simp (disch := omega) only [hz_up_eq, hz_up_ne, va_up_ne, va_up_self]; exact hp9) ?_
          refine hz_iconst (pc := 227) C (v := nI 1) dX11_nextToken_227 (by decide +kernel) ?_
          refine hz_iadd (pc := 228) C (v := nI (i + 1)) dX11_nextToken_228 (nI_add _ _) ?_
          refine hz_putI (pc := 229) C (M' := (hz_up (hz_up K 146 12 (nI ((10 * (nv x b (i - b))) + (x i) - 48))) 146 9 (nI (i + 1)), hz_up W 146 13 (-1 : Int64), PP q)) ffX11_75 dX11_nextToken_229 hT146 hA146 rfl rfl ⟨rfl, rfl⟩ rfl ?_
          refine hz_goto (pc := 232) C (tgt := 126) dX11_nextToken_232 rfl ?_
          exact ih (i + 1) _ _ (some (.int (nI (i - b)))) (by omega) ⟨(hm.up (k := 12) (by decide) (by decide) _).up (by decide) (by decide) _, hw.up _, hz_up_self _ _ _ _, by simp (disch := omega) only [hz_up_eq, hz_up_ne, va_up_ne, va_up_self]; exact hA, by simp (disch := omega) only [hz_up_eq, hz_up_ne, va_up_ne, va_up_self]; exact hT, (by simp (disch := omega) only [hz_up_eq, hz_up_ne, va_up_ne, va_up_self]; exact nv_s hb hk2 hd.2.1), hr.trans (rn_s (by omega) hd.2), by omega⟩
        · refine hz_aload_n (pc := 186) C dX11_nextToken_186 rfl ?_
          refine hz_iload_n (pc := 187) C dX11_nextToken_187 rfl ?_
          refine hz_iconst (pc := 188) C (v := nI 2) dX11_nextToken_188 (by decide +kernel) ?_
          refine hz_ic_ge (pc := 189) C (tgt := 215) dX11_nextToken_189 rfl (fun _ => ?_) (fun cq => absurd (nI_le (by omega) (by omega)) cq)
          refine hz_aload_n (pc := 215) C dX11_nextToken_215 rfl ?_
          refine hz_getI (pc := 216) C (v := nI (nv x b (i - b))) ffX11_84 dX11_nextToken_216 hT146 hA146 rfl hv ?_
          refine hz_putI (pc := 219) C (M' := (hz_up K 146 12 (nI (nv x b (i - b))), hz_up W 146 13 (-1 : Int64), PP q)) ffX11_84 dX11_nextToken_219 hT146 hA146 rfl rfl ⟨rfl, rfl⟩ rfl ?_
          refine hz_aload_n (pc := 222) C dX11_nextToken_222 rfl ?_
          refine hz_dup (pc := 223) C dX11_nextToken_223 rfl ?_
          refine hz_getI (pc := 224) C (v := nI i) ffX11_75 dX11_nextToken_224 hT146 hA146 rfl (by simp (disch := omega) only [hz_up_eq, hz_up_ne, va_up_ne, va_up_self]; exact hp9) ?_
          refine hz_iconst (pc := 227) C (v := nI 1) dX11_nextToken_227 (by decide +kernel) ?_
          refine hz_iadd (pc := 228) C (v := nI (i + 1)) dX11_nextToken_228 (nI_add _ _) ?_
          refine hz_putI (pc := 229) C (M' := (hz_up (hz_up K 146 12 (nI (nv x b (i - b)))) 146 9 (nI (i + 1)), hz_up W 146 13 (-1 : Int64), PP q)) ffX11_75 dX11_nextToken_229 hT146 hA146 rfl rfl ⟨rfl, rfl⟩ rfl ?_
          refine hz_goto (pc := 232) C (tgt := 126) dX11_nextToken_232 rfl ?_
          exact ih (i + 1) _ _ (some (.int (nI (i - b)))) (by omega) ⟨(hm.up (k := 12) (by decide) (by decide) _).up (by decide) (by decide) _, hw.up _, hz_up_self _ _ _ _, by simp (disch := omega) only [hz_up_eq, hz_up_ne, va_up_ne, va_up_self]; exact hA, by simp (disch := omega) only [hz_up_eq, hz_up_ne, va_up_ne, va_up_self]; exact hT, (by simp (disch := omega) only [hz_up_eq, hz_up_ne, va_up_ne, va_up_self]; exact congrArg nI (nv_l hb hk2)), hr.trans (rn_s (by omega) hd.2), by omega⟩
      · refine hz_ldc2 (pc := 158) C (v := lN 256) dX11_nextToken_158 (hz_mp 1011 (by decide +kernel)) ?_
        refine hz_aload_n (pc := 161) C dX11_nextToken_161 rfl ?_
        refine hz_getL (pc := 162) C (v := W 146 13) ffX11_81 dX11_nextToken_162 hT146 hA146 rfl rfl ?_
        refine hz_lmul (pc := 165) C dX11_nextToken_165 rfl ?_
        refine hz_aload_n (pc := 166) C dX11_nextToken_166 rfl ?_
        refine hz_getP (pc := 167) C (v := 152) ffX11_30 dX11_nextToken_167 hT146 hA146 rfl (hP146_8 q) (by decide) ?_
        refine hz_aload_n (pc := 170) C dX11_nextToken_170 rfl ?_
        refine hz_getI (pc := 171) C (v := nI i) ffX11_75 dX11_nextToken_171 hT146 hA146 rfl hp9 ?_
        refine hz_iald (pc := 174) C (v := nI (x i)) (j := i) dX11_nextToken_174 hT152 hA152 rfl (by omega) (by decide) (X1.2.2 i (by omega)).2 ?_
        refine hz_i2l (pc := 175) C (v := lN (x i)) dX11_nextToken_175 (nI_l (by omega)) ?_
        refine hz_ladd (pc := 176) C dX11_nextToken_176 rfl ?_
        refine hz_goto (pc := 177) C (tgt := 183) dX11_nextToken_177 rfl ?_
        refine hz_putL (pc := 183) C (M' := (K, hz_up W 146 13 (((lN 256) * (W 146 13)) + (lN (x i))), PP q)) ffX11_81 dX11_nextToken_183 hT146 hA146 rfl rfl (fun _ => ⟨rfl, rfl⟩) rfl ?_
        by_cases hk3 : i - b < 2
        · refine hz_aload_n (pc := 186) C dX11_nextToken_186 rfl ?_
          refine hz_iload_n (pc := 187) C dX11_nextToken_187 rfl ?_
          refine hz_iconst (pc := 188) C (v := nI 2) dX11_nextToken_188 (by decide +kernel) ?_
          refine hz_ic_ge (pc := 189) C (tgt := 215) dX11_nextToken_189 rfl (fun cq => absurd cq (nI_ge (by omega) (by omega))) (fun _ => ?_)
          refine hz_bipush (pc := 192) C (v := nI 10) dX11_nextToken_192 (by decide +kernel) ?_
          refine hz_aload_n (pc := 194) C dX11_nextToken_194 rfl ?_
          refine hz_getI (pc := 195) C (v := nI (nv x b (i - b))) ffX11_84 dX11_nextToken_195 hT146 hA146 rfl hv ?_
          refine hz_imul (pc := 198) C (v := nI (10 * (nv x b (i - b)))) dX11_nextToken_198 (pk_mul _ _) ?_
          refine hz_aload_n (pc := 199) C dX11_nextToken_199 rfl ?_
          refine hz_getP (pc := 200) C (v := 152) ffX11_30 dX11_nextToken_200 hT146 hA146 rfl (hP146_8 q) (by decide) ?_
          refine hz_aload_n (pc := 203) C dX11_nextToken_203 rfl ?_
          refine hz_getI (pc := 204) C (v := nI i) ffX11_75 dX11_nextToken_204 hT146 hA146 rfl hp9 ?_
          refine hz_iald (pc := 207) C (v := nI (x i)) (j := i) dX11_nextToken_207 hT152 hA152 rfl (by omega) (by decide) (X1.2.2 i (by omega)).2 ?_
          refine hz_iadd (pc := 208) C (v := nI ((10 * (nv x b (i - b))) + (x i))) dX11_nextToken_208 (nI_add _ _) ?_
          refine hz_bipush (pc := 209) C (v := nI 48) dX11_nextToken_209 (by decide +kernel) ?_
          refine hz_isub (pc := 211) C (v := nI ((10 * (nv x b (i - b))) + (x i) - 48)) dX11_nextToken_211 (pk_sub (by omega)) ?_
          refine hz_goto (pc := 212) C (tgt := 219) dX11_nextToken_212 rfl ?_
          refine hz_putI (pc := 219) C (M' := (hz_up K 146 12 (nI ((10 * (nv x b (i - b))) + (x i) - 48)), hz_up W 146 13 (((lN 256) * (W 146 13)) + (lN (x i))), PP q)) ffX11_84 dX11_nextToken_219 hT146 hA146 rfl rfl ⟨rfl, rfl⟩ rfl ?_
          refine hz_aload_n (pc := 222) C dX11_nextToken_222 rfl ?_
          refine hz_dup (pc := 223) C dX11_nextToken_223 rfl ?_
          refine hz_getI (pc := 224) C (v := nI i) ffX11_75 dX11_nextToken_224 hT146 hA146 rfl (by simp (disch := omega) only [hz_up_eq, hz_up_ne, va_up_ne, va_up_self]; exact hp9) ?_
          refine hz_iconst (pc := 227) C (v := nI 1) dX11_nextToken_227 (by decide +kernel) ?_
          refine hz_iadd (pc := 228) C (v := nI (i + 1)) dX11_nextToken_228 (nI_add _ _) ?_
          refine hz_putI (pc := 229) C (M' := (hz_up (hz_up K 146 12 (nI ((10 * (nv x b (i - b))) + (x i) - 48))) 146 9 (nI (i + 1)), hz_up W 146 13 (((lN 256) * (W 146 13)) + (lN (x i))), PP q)) ffX11_75 dX11_nextToken_229 hT146 hA146 rfl rfl ⟨rfl, rfl⟩ rfl ?_
          refine hz_goto (pc := 232) C (tgt := 126) dX11_nextToken_232 rfl ?_
          exact ih (i + 1) _ _ (some (.int (nI (i - b)))) (by omega) ⟨(hm.up (k := 12) (by decide) (by decide) _).up (by decide) (by decide) _, hw.up _, hz_up_self _ _ _ _, by simp (disch := omega) only [hz_up_eq, hz_up_ne, va_up_ne, va_up_self]; exact hA, by simp (disch := omega) only [hz_up_eq, hz_up_ne, va_up_ne, va_up_self]; exact hT, (by simp (disch := omega) only [hz_up_eq, hz_up_ne, va_up_ne, va_up_self]; exact nv_s hb hk3 hd.2.1), hr.trans (rn_s (by omega) hd.2), by omega⟩
        · refine hz_aload_n (pc := 186) C dX11_nextToken_186 rfl ?_
          refine hz_iload_n (pc := 187) C dX11_nextToken_187 rfl ?_
          refine hz_iconst (pc := 188) C (v := nI 2) dX11_nextToken_188 (by decide +kernel) ?_
          refine hz_ic_ge (pc := 189) C (tgt := 215) dX11_nextToken_189 rfl (fun _ => ?_) (fun cq => absurd (nI_le (by omega) (by omega)) cq)
          refine hz_aload_n (pc := 215) C dX11_nextToken_215 rfl ?_
          refine hz_getI (pc := 216) C (v := nI (nv x b (i - b))) ffX11_84 dX11_nextToken_216 hT146 hA146 rfl hv ?_
          refine hz_putI (pc := 219) C (M' := (hz_up K 146 12 (nI (nv x b (i - b))), hz_up W 146 13 (((lN 256) * (W 146 13)) + (lN (x i))), PP q)) ffX11_84 dX11_nextToken_219 hT146 hA146 rfl rfl ⟨rfl, rfl⟩ rfl ?_
          refine hz_aload_n (pc := 222) C dX11_nextToken_222 rfl ?_
          refine hz_dup (pc := 223) C dX11_nextToken_223 rfl ?_
          refine hz_getI (pc := 224) C (v := nI i) ffX11_75 dX11_nextToken_224 hT146 hA146 rfl (by simp (disch := omega) only [hz_up_eq, hz_up_ne, va_up_ne, va_up_self]; exact hp9) ?_
          refine hz_iconst (pc := 227) C (v := nI 1) dX11_nextToken_227 (by decide +kernel) ?_
          refine hz_iadd (pc := 228) C (v := nI (i + 1)) dX11_nextToken_228 (nI_add _ _) ?_
          refine hz_putI (pc := 229) C (M' := (hz_up (hz_up K 146 12 (nI (nv x b (i - b)))) 146 9 (nI (i + 1)), hz_up W 146 13 (((lN 256) * (W 146 13)) + (lN (x i))), PP q)) ffX11_75 dX11_nextToken_229 hT146 hA146 rfl rfl ⟨rfl, rfl⟩ rfl ?_
          refine hz_goto (pc := 232) C (tgt := 126) dX11_nextToken_232 rfl ?_
          exact ih (i + 1) _ _ (some (.int (nI (i - b)))) (by omega) ⟨(hm.up (k := 12) (by decide) (by decide) _).up (by decide) (by decide) _, hw.up _, hz_up_self _ _ _ _, by simp (disch := omega) only [hz_up_eq, hz_up_ne, va_up_ne, va_up_self]; exact hA, by simp (disch := omega) only [hz_up_eq, hz_up_ne, va_up_ne, va_up_self]; exact hT, (by simp (disch := omega) only [hz_up_eq, hz_up_ne, va_up_ne, va_up_self]; exact congrArg nI (nv_l hb hk3)), hr.trans (rn_s (by omega) hd.2), by omega⟩
    · refine hz_aload_n (pc := 134) C dX11_nextToken_134 rfl ?_
      refine hz_getI (pc := 135) C (v := nI 2) ffX11_87 dX11_nextToken_135 hT146 hA146 rfl hT ?_
      refine hz_ic_ne (pc := 138) C (tgt := 235) dX11_nextToken_138 rfl (fun _ => ?_) (fun cq => absurd ((nI_eq (by omega) (by omega)).mp cq) (by omega))
      exact kk K W zzw1 hm hw (by rw [hp9, hr, rn_e (fun z => hk1 (kd_2.mpr z))]) hA hT (by rw [hr, rn_e (fun z => hk1 (kd_2.mpr z))]; exact hv)
/-- the reference's sort of a token -/
def kR (t : Nat) (x : Nat → Nat) (s : Nat) : Nat := if kc t x s = 2 ∧ ¬ nxe t x s - bgn t x s ≤ 2 then 4 else kc t x s
/-- the reference's fields are the token found from s -/
def mS (K : Nat → Nat → Int32) (W : Nat → Nat → Int64) (t : Nat) (x : Nat → Nat) (s : Nat) : Prop := K 146 9 = nI (nxe t x s) ∧ K 146 10 = nI (bgn t x s) ∧ K 146 11 = nI (kR t x s) ∧ (kR t x s = 2 → K 146 12 = nI (vl t x s)) ∧ (kR t x s = 1 → W 146 13 = wv x (bgn t x s) (nxe t x s - bgn t x s))
theorem nv_vl {t : Nat} {x : Nat → Nat} {s : Nat} (hs : s ≤ t) (hk : kc t x s = 2) : nv x (bgn t x s) (nxe t x s - bgn t x s) = vl t x s := by
  have h := (nxe_ok x hs).2.2.2 (by omega)
  unfold nv vl vd
  rw [if_neg (by omega)]
set_option maxHeartbeats 4000000 in
set_option maxRecDepth 100000 in
theorem ex_nextT {J : Nat → Nat → Int32} {L : Nat → Nat → Int64} {q : Nat → Nat → Nat} {t : Nat} {x : Nat → Nat} (X0 : mxt J t x) {s : Nat} (hs : s ≤ t) (h9 : J 146 9 = nI s) : hz_Ex mX11_nextToken TT NN (J, L, PP q) [.ref 146] (hz_PL (PP q) none (fun K W => mC J K ∧ wC L W ∧ mS K W t x s)) := by
  have h150 := X0.1
  have hbg := rn_ok t x 32 32 hs
  have hbt : bgn t x s ≤ t := hbg.2.1
  have hkl := kd_le t x (bgn t x s)
  have hrf := rn_ok t x 48 57 hbt
  refine hz_Ex.intro (ls := [some (.ref 146), none]) (by decide +kernel) rfl (Nat.le_of_ble_eq_true rfl) (fun X C Z => ?_)
  refine lp_sp C X0 (s := s) (fun K hm hp9 => ?_) (t - s) s J (by omega) ⟨mC.rf J, h9, rfl⟩
  have X1 := hm.mxt X0
  refine hz_aload_n (pc := 38) C dX11_nextToken_38 rfl ?_
  refine hz_aload_n (pc := 39) C dX11_nextToken_39 rfl ?_
  refine hz_getI (pc := 40) C (v := nI (bgn t x s)) ffX11_75 dX11_nextToken_40 hT146 hA146 rfl hp9 ?_
  refine hz_putI (pc := 43) C (M' := (hz_up K 146 10 (nI (bgn t x s)), L, PP q)) ffX11_78 dX11_nextToken_43 hT146 hA146 rfl rfl ⟨rfl, rfl⟩ rfl ?_
  refine hz_aload_n (pc := 46) C dX11_nextToken_46 rfl ?_
  refine hz_lconst (pc := 47) C (v := 0) dX11_nextToken_47 (by decide +kernel) ?_
  refine hz_putL (pc := 48) C (M' := (hz_up K 146 10 (nI (bgn t x s)), hz_up L 146 13 (0 : Int64), PP q)) ffX11_81 dX11_nextToken_48 hT146 hA146 rfl rfl (fun _ => ⟨rfl, rfl⟩) rfl ?_
  refine hz_aload_n (pc := 51) C dX11_nextToken_51 rfl ?_
  refine hz_iconst (pc := 52) C (v := nI 0) dX11_nextToken_52 (by decide +kernel) ?_
  refine hz_putI (pc := 53) C (M' := (hz_up (hz_up K 146 10 (nI (bgn t x s))) 146 12 (nI 0), hz_up L 146 13 (0 : Int64), PP q)) ffX11_84 dX11_nextToken_53 hT146 hA146 rfl rfl ⟨rfl, rfl⟩ rfl ?_
  by_cases hk1 : bgn t x s = t
  · refine hz_aload_n (pc := 56) C dX11_nextToken_56 rfl ?_
    refine hz_getI (pc := 57) C (v := nI (bgn t x s)) ffX11_75 dX11_nextToken_57 hT146 hA146 rfl (by simp (disch := omega) only [hz_up_eq, hz_up_ne, va_up_ne, va_up_self]; exact hp9) ?_
    refine hz_aload_n (pc := 60) C dX11_nextToken_60 rfl ?_
    refine hz_getI (pc := 61) C (v := nI t) ffX11_71 dX11_nextToken_61 hT146 hA146 rfl (by simp (disch := omega) only [hz_up_eq, hz_up_ne, va_up_ne, va_up_self]; exact X1.2.1) ?_
    refine hz_ic_ne (pc := 64) C (tgt := 73) dX11_nextToken_64 rfl (fun cq => absurd ((nI_eq (by omega) (by omega)).mpr (by omega)) cq) (fun _ => ?_)
    refine hz_aload_n (pc := 67) C dX11_nextToken_67 rfl ?_
    refine hz_iconst (pc := 68) C (v := nI 0) dX11_nextToken_68 (by decide +kernel) ?_
    refine hz_putI (pc := 69) C (M' := (hz_up (hz_up (hz_up K 146 10 (nI (bgn t x s))) 146 12 (nI 0)) 146 11 (nI 0), hz_up L 146 13 (0 : Int64), PP q)) ffX11_87 dX11_nextToken_69 hT146 hA146 rfl rfl ⟨rfl, rfl⟩ rfl ?_
    exact hz_vretx C Z rfl dX11_nextToken_72 (by
      have hk : kc t x s = 0 := by unfold kc; rw [if_pos (by omega)]
      have he : nxe t x s = bgn t x s := by unfold nxe; rw [hk]; rfl
      have hR : kR t x s = 0 := by unfold kR; rw [if_neg (by omega), hk]
      exact ⟨_, _, rfl, rfl, ((hm.up (k := 10) (by decide) (by decide) _).up (k := 12) (by decide) (by decide) _).up (k := 11) (by decide) (by decide) _, (wC.rf L).up _, by simp (disch := omega) only [hz_up_eq, hz_up_ne, va_up_ne, va_up_self]; rw [he]; exact hp9, by simp (disch := omega) only [hz_up_eq, hz_up_ne, va_up_ne, va_up_self], by simp (disch := omega) only [hz_up_eq, hz_up_ne, va_up_ne, va_up_self]; rw [hR], fun z => by omega, fun z => by omega⟩)
  · refine hz_aload_n (pc := 56) C dX11_nextToken_56 rfl ?_
    refine hz_getI (pc := 57) C (v := nI (bgn t x s)) ffX11_75 dX11_nextToken_57 hT146 hA146 rfl (by simp (disch := omega) only [hz_up_eq, hz_up_ne, va_up_ne, va_up_self]; exact hp9) ?_
    refine hz_aload_n (pc := 60) C dX11_nextToken_60 rfl ?_
    refine hz_getI (pc := 61) C (v := nI t) ffX11_71 dX11_nextToken_61 hT146 hA146 rfl (by simp (disch := omega) only [hz_up_eq, hz_up_ne, va_up_ne, va_up_self]; exact X1.2.1) ?_
    refine hz_ic_ne (pc := 64) C (tgt := 73) dX11_nextToken_64 rfl (fun _ => ?_) (fun cq => absurd ((nI_eq (by omega) (by omega)).mp cq) (by omega))
    by_cases hk2 : kd t x (bgn t x s) = 1
    · refine hz_aload_n (pc := 73) C dX11_nextToken_73 rfl ?_
      refine hz_aload_n (pc := 74) C dX11_nextToken_74 rfl ?_
      refine hz_aload_n (pc := 75) C dX11_nextToken_75 rfl ?_
      refine hz_getI (pc := 76) C (v := nI (bgn t x s)) ffX11_75 dX11_nextToken_76 hT146 hA146 rfl (by simp (disch := omega) only [hz_up_eq, hz_up_ne, va_up_ne, va_up_self]; exact hp9) ?_
      refine hz_callVs (pc := 79) C (as := [.int (nI (bgn t x s))]) (st := [.ref 146]) (ev_kindAt (p := bgn t x s) (⟨X1.1, by simp (disch := omega) only [hz_up_eq, hz_up_ne, va_up_ne, va_up_self]; exact X1.2.1, fun j hj => by simp (disch := omega) only [hz_up_ne]; exact X1.2.2 j hj⟩ : mxt _ t x) (by omega)) (hz_new0 _ _) fyX11_kindAt fvX11_90 rfl dX11_nextToken_79 hT146 rfl rfl hA146 rfl rfl (Nat.le_of_ble_eq_true rfl) (by decide) (hz_cap0 _) ?_
      refine hz_putI (pc := 82) C (M' := (hz_up (hz_up (hz_up K 146 10 (nI (bgn t x s))) 146 12 (nI 0)) 146 11 (nI (kd t x (bgn t x s))), hz_up L 146 13 (0 : Int64), PP q)) ffX11_87 dX11_nextToken_82 hT146 hA146 rfl rfl ⟨rfl, rfl⟩ rfl ?_
      refine hz_aload_n (pc := 85) C dX11_nextToken_85 rfl ?_
      refine hz_getI (pc := 86) C (v := nI (kd t x (bgn t x s))) ffX11_87 dX11_nextToken_86 hT146 hA146 rfl rfl ?_
      refine hz_if_ne (pc := 89) C (tgt := 126) dX11_nextToken_89 rfl (fun _ => ?_) (fun cq => absurd cq (nI_ne0 (by omega) (by omega)))
      have hd := kd_1.mp hk2
      refine lp_lt C X0 (b := bgn t x s) (L := L) (fun K2 W2 zzw1 hm2 hw2 h29 h2A h2T h2v => ?_) (t - bgn t x s) (bgn t x s) _ _ _ (by omega) ⟨((hm.up (k := 10) (by decide) (by decide) _).up (k := 12) (by decide) (by decide) _).up (by decide) (by decide) _, (wC.rf L).up _, by simp (disch := omega) only [hz_up_eq, hz_up_ne, va_up_ne, va_up_self]; exact hp9, by simp (disch := omega) only [hz_up_eq, hz_up_ne, va_up_ne, va_up_self], by simp (disch := omega) only [hz_up_eq, hz_up_ne, va_up_ne, va_up_self]; rw [hk2], by rw [hz_up_self, Nat.sub_self]; rfl, rfl, Nat.le_refl _⟩
      refine hz_aload_n (pc := 235) C dX11_nextToken_235 rfl ?_
      refine hz_aload_n (pc := 236) C dX11_nextToken_236 rfl ?_
      refine hz_getI (pc := 237) C (v := nI 1) ffX11_87 dX11_nextToken_237 hT146 hA146 rfl h2T ?_
      refine hz_iconst (pc := 240) C (v := nI 2) dX11_nextToken_240 (by decide +kernel) ?_
      refine hz_ic_ne (pc := 241) C (tgt := 261) dX11_nextToken_241 rfl (fun _ => ?_) (fun cq => absurd cq (by decide +kernel))
      refine hz_aload_n (pc := 261) C dX11_nextToken_261 rfl ?_
      refine hz_getI (pc := 262) C (v := nI 1) ffX11_87 dX11_nextToken_262 hT146 hA146 rfl h2T ?_
      refine hz_putI (pc := 265) C (M' := (hz_up K2 146 11 (nI 1), W2, PP q)) ffX11_87 dX11_nextToken_265 hT146 hA146 rfl rfl ⟨rfl, rfl⟩ rfl ?_
      exact hz_vretx C Z rfl dX11_nextToken_268 (by
      have hk : kc t x s = 1 := by unfold kc; rw [if_neg (by omega), if_pos hd.2]
      have he : nxe t x s = rn t x 97 122 (bgn t x s) := by unfold nxe; rw [hk]; rfl
      have hR : kR t x s = 1 := by unfold kR; rw [if_neg (by omega), hk]
      exact ⟨_, _, rfl, rfl, hm2.up (by decide) (by decide) _, hw2, by simp (disch := omega) only [hz_up_eq, hz_up_ne, va_up_ne, va_up_self]; rw [he]; exact h29, by simp (disch := omega) only [hz_up_eq, hz_up_ne, va_up_ne, va_up_self]; exact h2A, by simp (disch := omega) only [hz_up_eq, hz_up_ne, va_up_ne, va_up_self]; rw [hR], fun z => by omega, fun _ => by rw [h2v, he]⟩)
    · refine hz_aload_n (pc := 73) C dX11_nextToken_73 rfl ?_
      by_cases hk3 : kd t x (bgn t x s) = 2
      · refine hz_aload_n (pc := 74) C dX11_nextToken_74 rfl ?_
        refine hz_aload_n (pc := 75) C dX11_nextToken_75 rfl ?_
        refine hz_getI (pc := 76) C (v := nI (bgn t x s)) ffX11_75 dX11_nextToken_76 hT146 hA146 rfl (by simp (disch := omega) only [hz_up_eq, hz_up_ne, va_up_ne, va_up_self]; exact hp9) ?_
        refine hz_callVs (pc := 79) C (as := [.int (nI (bgn t x s))]) (st := [.ref 146]) (ev_kindAt (p := bgn t x s) (⟨X1.1, by simp (disch := omega) only [hz_up_eq, hz_up_ne, va_up_ne, va_up_self]; exact X1.2.1, fun j hj => by simp (disch := omega) only [hz_up_ne]; exact X1.2.2 j hj⟩ : mxt _ t x) (by omega)) (hz_new0 _ _) fyX11_kindAt fvX11_90 rfl dX11_nextToken_79 hT146 rfl rfl hA146 rfl rfl (Nat.le_of_ble_eq_true rfl) (by decide) (hz_cap0 _) ?_
        refine hz_putI (pc := 82) C (M' := (hz_up (hz_up (hz_up K 146 10 (nI (bgn t x s))) 146 12 (nI 0)) 146 11 (nI (kd t x (bgn t x s))), hz_up L 146 13 (0 : Int64), PP q)) ffX11_87 dX11_nextToken_82 hT146 hA146 rfl rfl ⟨rfl, rfl⟩ rfl ?_
        refine hz_aload_n (pc := 85) C dX11_nextToken_85 rfl ?_
        refine hz_getI (pc := 86) C (v := nI (kd t x (bgn t x s))) ffX11_87 dX11_nextToken_86 hT146 hA146 rfl rfl ?_
        refine hz_if_ne (pc := 89) C (tgt := 126) dX11_nextToken_89 rfl (fun _ => ?_) (fun cq => absurd cq (nI_ne0 (by omega) (by omega)))
        have hd := kd_2.mp hk3
        refine lp_fg C X0 (b := bgn t x s) (L := L) (fun K2 W2 zzw1 hm2 hw2 h29 h2A h2T h2v => ?_) (t - bgn t x s) (bgn t x s) _ _ _ (by omega) ⟨((hm.up (k := 10) (by decide) (by decide) _).up (k := 12) (by decide) (by decide) _).up (by decide) (by decide) _, (wC.rf L).up _, by simp (disch := omega) only [hz_up_eq, hz_up_ne, va_up_ne, va_up_self]; exact hp9, by simp (disch := omega) only [hz_up_eq, hz_up_ne, va_up_ne, va_up_self], by simp (disch := omega) only [hz_up_eq, hz_up_ne, va_up_ne, va_up_self]; rw [hk3], by simp (disch := omega) only [hz_up_eq, hz_up_ne, va_up_ne, va_up_self]; rw [Nat.sub_self]; rfl, rfl, Nat.le_refl _⟩
        refine hz_aload_n (pc := 235) C dX11_nextToken_235 rfl ?_
        refine hz_aload_n (pc := 236) C dX11_nextToken_236 rfl ?_
        refine hz_getI (pc := 237) C (v := nI 2) ffX11_87 dX11_nextToken_237 hT146 hA146 rfl h2T ?_
        refine hz_iconst (pc := 240) C (v := nI 2) dX11_nextToken_240 (by decide +kernel) ?_
        refine hz_ic_ne (pc := 241) C (tgt := 261) dX11_nextToken_241 rfl (fun cq => absurd (by decide +kernel) cq) (fun _ => ?_)
        by_cases hk4 : rn t x 48 57 (bgn t x s) - bgn t x s ≤ 2
        · refine hz_aload_n (pc := 244) C dX11_nextToken_244 rfl ?_
          refine hz_getI (pc := 245) C (v := nI (rn t x 48 57 (bgn t x s))) ffX11_75 dX11_nextToken_245 hT146 hA146 rfl h29 ?_
          refine hz_aload_n (pc := 248) C dX11_nextToken_248 rfl ?_
          refine hz_getI (pc := 249) C (v := nI (bgn t x s)) ffX11_78 dX11_nextToken_249 hT146 hA146 rfl h2A ?_
          refine hz_isub (pc := 252) C (v := nI (rn t x 48 57 (bgn t x s) - bgn t x s)) dX11_nextToken_252 (pk_sub (by have := rn_ok t x 48 57 hbt; omega)) ?_
          refine hz_iconst (pc := 253) C (v := nI 2) dX11_nextToken_253 (by decide +kernel) ?_
          refine hz_ic_le (pc := 254) C (tgt := 261) dX11_nextToken_254 rfl (fun _ => ?_) (fun cq => absurd (nI_le (by omega) (by omega)) cq)
          refine hz_aload_n (pc := 261) C dX11_nextToken_261 rfl ?_
          refine hz_getI (pc := 262) C (v := nI 2) ffX11_87 dX11_nextToken_262 hT146 hA146 rfl h2T ?_
          refine hz_putI (pc := 265) C (M' := (hz_up K2 146 11 (nI 2), W2, PP q)) ffX11_87 dX11_nextToken_265 hT146 hA146 rfl rfl ⟨rfl, rfl⟩ rfl ?_
          exact hz_vretx C Z rfl dX11_nextToken_268 (by
      have hk : kc t x s = 2 := by unfold kc; rw [if_neg (by omega), if_neg (by omega), if_pos hd.2]
      have he : nxe t x s = rn t x 48 57 (bgn t x s) := by unfold nxe; rw [hk]; rfl
      have hR : kR t x s = 2 := by unfold kR; rw [if_neg (fun z => z.2 (by rw [he]; exact hk4)), hk]
      exact ⟨_, _, rfl, rfl, hm2.up (by decide) (by decide) _, hw2, by simp (disch := omega) only [hz_up_eq, hz_up_ne, va_up_ne, va_up_self]; rw [he]; exact h29, by simp (disch := omega) only [hz_up_eq, hz_up_ne, va_up_ne, va_up_self]; exact h2A, by simp (disch := omega) only [hz_up_eq, hz_up_ne, va_up_ne, va_up_self]; rw [hR], fun _ => by simp (disch := omega) only [hz_up_eq, hz_up_ne, va_up_ne, va_up_self]; rw [h2v, ← nv_vl hs hk, he], fun z => by omega⟩)
        · refine hz_aload_n (pc := 244) C dX11_nextToken_244 rfl ?_
          refine hz_getI (pc := 245) C (v := nI (rn t x 48 57 (bgn t x s))) ffX11_75 dX11_nextToken_245 hT146 hA146 rfl h29 ?_
          refine hz_aload_n (pc := 248) C dX11_nextToken_248 rfl ?_
          refine hz_getI (pc := 249) C (v := nI (bgn t x s)) ffX11_78 dX11_nextToken_249 hT146 hA146 rfl h2A ?_
          refine hz_isub (pc := 252) C (v := nI (rn t x 48 57 (bgn t x s) - bgn t x s)) dX11_nextToken_252 (pk_sub (by have := rn_ok t x 48 57 hbt; omega)) ?_
          refine hz_iconst (pc := 253) C (v := nI 2) dX11_nextToken_253 (by decide +kernel) ?_
          refine hz_ic_le (pc := 254) C (tgt := 261) dX11_nextToken_254 rfl (fun cq => absurd cq (nI_ge (by omega) (by omega))) (fun _ => ?_)
          refine hz_iconst (pc := 257) C (v := nI 4) dX11_nextToken_257 (by decide +kernel) ?_
          refine hz_goto (pc := 258) C (tgt := 265) dX11_nextToken_258 rfl ?_
          refine hz_putI (pc := 265) C (M' := (hz_up K2 146 11 (nI 4), W2, PP q)) ffX11_87 dX11_nextToken_265 hT146 hA146 rfl rfl ⟨rfl, rfl⟩ rfl ?_
          exact hz_vretx C Z rfl dX11_nextToken_268 (by
      have hk : kc t x s = 2 := by unfold kc; rw [if_neg (by omega), if_neg (by omega), if_pos hd.2]
      have he : nxe t x s = rn t x 48 57 (bgn t x s) := by unfold nxe; rw [hk]; rfl
      have hR : kR t x s = 4 := by unfold kR; rw [if_pos ⟨hk, by rw [he]; exact hk4⟩]
      exact ⟨_, _, rfl, rfl, hm2.up (by decide) (by decide) _, hw2, by simp (disch := omega) only [hz_up_eq, hz_up_ne, va_up_ne, va_up_self]; rw [he]; exact h29, by simp (disch := omega) only [hz_up_eq, hz_up_ne, va_up_ne, va_up_self]; exact h2A, by simp (disch := omega) only [hz_up_eq, hz_up_ne, va_up_ne, va_up_self]; rw [hR], fun z => by omega, fun z => by omega⟩)
      · refine hz_aload_n (pc := 74) C dX11_nextToken_74 rfl ?_
        refine hz_aload_n (pc := 75) C dX11_nextToken_75 rfl ?_
        refine hz_getI (pc := 76) C (v := nI (bgn t x s)) ffX11_75 dX11_nextToken_76 hT146 hA146 rfl (by simp (disch := omega) only [hz_up_eq, hz_up_ne, va_up_ne, va_up_self]; exact hp9) ?_
        refine hz_callVs (pc := 79) C (as := [.int (nI (bgn t x s))]) (st := [.ref 146]) (ev_kindAt (p := bgn t x s) (⟨X1.1, by simp (disch := omega) only [hz_up_eq, hz_up_ne, va_up_ne, va_up_self]; exact X1.2.1, fun j hj => by simp (disch := omega) only [hz_up_ne]; exact X1.2.2 j hj⟩ : mxt _ t x) (by omega)) (hz_new0 _ _) fyX11_kindAt fvX11_90 rfl dX11_nextToken_79 hT146 rfl rfl hA146 rfl rfl (Nat.le_of_ble_eq_true rfl) (by decide) (hz_cap0 _) ?_
        refine hz_putI (pc := 82) C (M' := (hz_up (hz_up (hz_up K 146 10 (nI (bgn t x s))) 146 12 (nI 0)) 146 11 (nI (kd t x (bgn t x s))), hz_up L 146 13 (0 : Int64), PP q)) ffX11_87 dX11_nextToken_82 hT146 hA146 rfl rfl ⟨rfl, rfl⟩ rfl ?_
        refine hz_aload_n (pc := 85) C dX11_nextToken_85 rfl ?_
        refine hz_getI (pc := 86) C (v := nI (kd t x (bgn t x s))) ffX11_87 dX11_nextToken_86 hT146 hA146 rfl rfl ?_
        refine hz_if_ne (pc := 89) C (tgt := 126) dX11_nextToken_89 rfl (fun cq => absurd (show nI (kd t x (bgn t x s)) = 0 by rw [show kd t x (bgn t x s) = 0 by omega]; exact nI_0) cq) (fun _ => ?_)
        refine hz_aload_n (pc := 92) C dX11_nextToken_92 rfl ?_
        refine hz_aload_n (pc := 93) C dX11_nextToken_93 rfl ?_
        refine hz_getP (pc := 94) C (v := 152) ffX11_30 dX11_nextToken_94 hT146 hA146 rfl (hP146_8 q) (by decide) ?_
        refine hz_aload_n (pc := 97) C dX11_nextToken_97 rfl ?_
        refine hz_getI (pc := 98) C (v := nI (bgn t x s)) ffX11_75 dX11_nextToken_98 hT146 hA146 rfl (by simp (disch := omega) only [hz_up_eq, hz_up_ne, va_up_ne, va_up_self]; exact hp9) ?_
        refine hz_iald (pc := 101) C (v := nI (x (bgn t x s))) (j := bgn t x s) dX11_nextToken_101 hT152 hA152 rfl (by omega) (by decide) (by simp (disch := omega) only [hz_up_eq, hz_up_ne, va_up_ne, va_up_self]; exact (X1.2.2 (bgn t x s) (by omega)).2) ?_
        refine hz_bipush (pc := 102) C (v := nI 59) dX11_nextToken_102 (by decide +kernel) ?_
        refine hz_ic_ne (pc := 104) C (tgt := 111) dX11_nextToken_104 rfl (fun zzc1 => ?_) (fun zzc1 => ?_)
        · refine hz_iconst (pc := 111) C (v := nI 4) dX11_nextToken_111 (by decide +kernel) ?_
          refine hz_putI (pc := 112) C (M' := (hz_up (hz_up (hz_up (hz_up K 146 10 (nI (bgn t x s))) 146 12 (nI 0)) 146 11 (nI (kd t x (bgn t x s)))) 146 11 (nI 4), hz_up L 146 13 (0 : Int64), PP q)) ffX11_87 dX11_nextToken_112 hT146 hA146 rfl rfl ⟨rfl, rfl⟩ rfl ?_
          refine hz_aload_n (pc := 115) C dX11_nextToken_115 rfl ?_
          refine hz_dup (pc := 116) C dX11_nextToken_116 rfl ?_
          refine hz_getI (pc := 117) C (v := nI (bgn t x s)) ffX11_75 dX11_nextToken_117 hT146 hA146 rfl (by simp (disch := omega) only [hz_up_eq, hz_up_ne, va_up_ne, va_up_self]; exact hp9) ?_
          refine hz_iconst (pc := 120) C (v := nI 1) dX11_nextToken_120 (by decide +kernel) ?_
          refine hz_iadd (pc := 121) C (v := nI ((bgn t x s) + 1)) dX11_nextToken_121 (nI_add _ _) ?_
          refine hz_putI (pc := 122) C (M' := (hz_up (hz_up (hz_up (hz_up (hz_up K 146 10 (nI (bgn t x s))) 146 12 (nI 0)) 146 11 (nI (kd t x (bgn t x s)))) 146 11 (nI 4)) 146 9 (nI ((bgn t x s) + 1)), hz_up L 146 13 (0 : Int64), PP q)) ffX11_75 dX11_nextToken_122 hT146 hA146 rfl rfl ⟨rfl, rfl⟩ rfl ?_
          exact hz_vretx C Z rfl dX11_nextToken_125 (by
      have hlt : bgn t x s < t := by omega
      have hn1 : ¬ (97 ≤ x (bgn t x s) ∧ x (bgn t x s) ≤ 122) := fun z => hk2 (kd_1.mpr ⟨hlt, z⟩)
      have hn2 : ¬ (48 ≤ x (bgn t x s) ∧ x (bgn t x s) ≤ 57) := fun z => hk3 (kd_2.mpr ⟨hlt, z⟩)
      have hxb := (X0.2.2 (bgn t x s) hlt).1
      have hk : kc t x s = 4 := by unfold kc; rw [if_neg (by omega), if_neg hn1, if_neg hn2, if_neg (fun z => zzc1 (by rw [z]))]
      have he : nxe t x s = bgn t x s + 1 := by unfold nxe; rw [hk]; rfl
      have hR : kR t x s = 4 := by unfold kR; rw [if_neg (by omega), hk]
      exact ⟨_, _, rfl, rfl, ((((hm.up (k := 10) (by decide) (by decide) _).up (k := 12) (by decide) (by decide) _).up (k := 11) (by decide) (by decide) _).up (k := 11) (by decide) (by decide) _).up (k := 9) (by decide) (by decide) _, (wC.rf L).up _, by simp (disch := omega) only [hz_up_eq, hz_up_ne, va_up_ne, va_up_self]; rw [he], by simp (disch := omega) only [hz_up_eq, hz_up_ne, va_up_ne, va_up_self], by simp (disch := omega) only [hz_up_eq, hz_up_ne, va_up_ne, va_up_self]; rw [hR], fun z => by omega, fun z => by omega⟩)
        · refine hz_iconst (pc := 107) C (v := nI 3) dX11_nextToken_107 (by decide +kernel) ?_
          refine hz_goto (pc := 108) C (tgt := 112) dX11_nextToken_108 rfl ?_
          refine hz_putI (pc := 112) C (M' := (hz_up (hz_up (hz_up (hz_up K 146 10 (nI (bgn t x s))) 146 12 (nI 0)) 146 11 (nI (kd t x (bgn t x s)))) 146 11 (nI 3), hz_up L 146 13 (0 : Int64), PP q)) ffX11_87 dX11_nextToken_112 hT146 hA146 rfl rfl ⟨rfl, rfl⟩ rfl ?_
          refine hz_aload_n (pc := 115) C dX11_nextToken_115 rfl ?_
          refine hz_dup (pc := 116) C dX11_nextToken_116 rfl ?_
          refine hz_getI (pc := 117) C (v := nI (bgn t x s)) ffX11_75 dX11_nextToken_117 hT146 hA146 rfl (by simp (disch := omega) only [hz_up_eq, hz_up_ne, va_up_ne, va_up_self]; exact hp9) ?_
          refine hz_iconst (pc := 120) C (v := nI 1) dX11_nextToken_120 (by decide +kernel) ?_
          refine hz_iadd (pc := 121) C (v := nI ((bgn t x s) + 1)) dX11_nextToken_121 (nI_add _ _) ?_
          refine hz_putI (pc := 122) C (M' := (hz_up (hz_up (hz_up (hz_up (hz_up K 146 10 (nI (bgn t x s))) 146 12 (nI 0)) 146 11 (nI (kd t x (bgn t x s)))) 146 11 (nI 3)) 146 9 (nI ((bgn t x s) + 1)), hz_up L 146 13 (0 : Int64), PP q)) ffX11_75 dX11_nextToken_122 hT146 hA146 rfl rfl ⟨rfl, rfl⟩ rfl ?_
          exact hz_vretx C Z rfl dX11_nextToken_125 (by
      have hlt : bgn t x s < t := by omega
      have hn1 : ¬ (97 ≤ x (bgn t x s) ∧ x (bgn t x s) ≤ 122) := fun z => hk2 (kd_1.mpr ⟨hlt, z⟩)
      have hn2 : ¬ (48 ≤ x (bgn t x s) ∧ x (bgn t x s) ≤ 57) := fun z => hk3 (kd_2.mpr ⟨hlt, z⟩)
      have hxb := (X0.2.2 (bgn t x s) hlt).1
      have hk : kc t x s = 3 := by unfold kc; rw [if_neg (by omega), if_neg hn1, if_neg hn2, if_pos ((nI_eq (by omega) (by omega)).mp zzc1)]
      have he : nxe t x s = bgn t x s + 1 := by unfold nxe; rw [hk]; rfl
      have hR : kR t x s = 3 := by unfold kR; rw [if_neg (by omega), hk]
      exact ⟨_, _, rfl, rfl, ((((hm.up (k := 10) (by decide) (by decide) _).up (k := 12) (by decide) (by decide) _).up (k := 11) (by decide) (by decide) _).up (k := 11) (by decide) (by decide) _).up (k := 9) (by decide) (by decide) _, (wC.rf L).up _, by simp (disch := omega) only [hz_up_eq, hz_up_ne, va_up_ne, va_up_self]; rw [he], by simp (disch := omega) only [hz_up_eq, hz_up_ne, va_up_ne, va_up_self], by simp (disch := omega) only [hz_up_eq, hz_up_ne, va_up_ne, va_up_self]; rw [hR], fun z => by omega, fun z => by omega⟩)

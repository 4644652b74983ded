theorem fst_le (u : Nat → Nat) (r p w : Nat) : ∀ n i, fst u r p w n i ≤ i + n := by
  intro n
  induction n with
  | zero => intro i; exact Nat.zero_le _
  | succ n ih =>
    intro i
    simp only [fst]
    split
    · omega
    · have := ih (i + 1); omega
theorem en_le (u : Nat → Nat) {r k : Nat} (hr : r < 8) : en u r k ≤ 8 := by
  have h := fst_le u r (u (71 + k)) (ds u r (u (71 + k))) 8 0
  unfold en
  split
  · omega
  · split
    · omega
    · split <;> omega
theorem en_eq {a b : Nat} (ha : a ≤ 8) (hb : b ≤ 8) : nI a - 1 = nI b - 1 ↔ a = b := by
  have h : ∀ a, a < 9 → ∀ b, b < 9 → (nI a - 1 = nI b - 1 ↔ a = b) := by decide +kernel
  exact h a (by omega) b (by omega)
def allb (f : Nat → Bool) : Nat → Bool
  | 0 => true
  | n + 1 => allb f n && f n
theorem allb_t {f : Nat → Bool} {n : Nat} (h : f n = true) : allb f (n + 1) = allb f n := by simp [allb, h]
theorem allb_no {f : Nat → Bool} : ∀ {n k : Nat}, k < n → ¬ f k = true → ¬ allb f n = true := by
  intro n
  induction n with
  | zero => intro k h; omega
  | succ n ih =>
    intro k h hf
    by_cases e : k = n
    · subst e; simp [allb, hf]
    · have h2 := ih (show k < n by omega) hf
      simp [allb, h2]
/-- a note fits: heard through that room, or not heard -/
def fit1 (u : Nat → Nat) (k i : Nat) : Bool := decide (en u (u (78 + 2 * i)) k = u (79 + 2 * i))
def fit (u : Nat → Nat) (k : Nat) : Bool := allb (fit1 u k) (u 77)
theorem msb_f (u : Nat → Nat) (I : Nat → Nat → Int32) : msb false u I = I := rfl
set_option maxHeartbeats 4000000 in
set_option maxRecDepth 100000 in
theorem ev_toldApart {I : Nat → Nat → Int32} {L : Nat → Nat → Int64} {q : Nat → Nat → Nat} {u : Nat → Nat} (V : HV 12 q I u) (U : WU u) {r i j : Nat} (hr : r < 8) (hi : i < u 64) (hj : j < u 64) : hz_Ev mX2_toldApart TT NN (I, L, PP q) [.ref 12, .int (nI r), .int (nI i), .int (nI j)] 0 0 (some (.int (hz_b (¬ en u r i = en u r j)))) TT NN (ms u I, L, PP q) := by
  have hal := wu_al U
  refine hz_Ev.intro (ls := [some (.ref 12), some (.int (nI r)), some (.int (nI i)), some (.int (nI j))]) (by decide +kernel) rfl (Nat.le_of_ble_eq_true rfl) (fun X C Z _ => ?_)
  refine hz_aload_n (pc := 0) C dX2_toldApart_0 rfl ?_
  refine hz_iload_n (pc := 1) C dX2_toldApart_1 rfl ?_
  refine hz_iload_n (pc := 2) C dX2_toldApart_2 rfl ?_
  refine hz_callVs (pc := 3) C (as := [.int (nI r), .int (nI i)]) (st := []) (ev_entrance (L := L) V U (r := r) (k := i) (by omega) (by omega)) (hz_new0 _ _) fyX2_entrance fvX2_153 rfl dX2_toldApart_3 hT12 rfl rfl hA12 rfl rfl (Nat.le_of_ble_eq_true rfl) (by decide) (hz_cap0 _) ?_
  refine hz_aload_n (pc := 6) C dX2_toldApart_6 rfl ?_
  refine hz_iload_n (pc := 7) C dX2_toldApart_7 rfl ?_
  refine hz_iload_n (pc := 8) C dX2_toldApart_8 rfl ?_
  refine hz_callVs (pc := 9) C (as := [.int (nI r), .int (nI j)]) (st := [.int (nI (en u r i) - 1)]) ((by have h9 := ev_entrance (L := L) (hv_ms V U) U (r := r) (k := j) (by omega) (by omega); rw [ms_ms] at h9; exact h9)) (hz_new0 _ _) fyX2_entrance fvX2_153 rfl dX2_toldApart_9 hT12 rfl rfl hA12 rfl rfl (Nat.le_of_ble_eq_true rfl) (by decide) (hz_cap0 _) ?_
  refine hz_ic_eq (pc := 12) C (tgt := 19) dX2_toldApart_12 rfl (fun c1 => ?_) (fun c1 => ?_)
  · refine hz_iconst (pc := 19) C (v := nI 0) dX2_toldApart_19 (by decide +kernel) ?_
    exact hz_zret C Z rfl (by decide +kernel) dX2_toldApart_20 (hz_b0 (fun z => z ((en_eq (en_le u hr) (en_le u hr)).mp c1))).symm rfl
  · refine hz_iconst (pc := 15) C (v := nI 1) dX2_toldApart_15 (by decide +kernel) ?_
    refine hz_goto (pc := 16) C (tgt := 20) dX2_toldApart_16 rfl ?_
    exact hz_zret C Z rfl (by decide +kernel) dX2_toldApart_20 (hz_b1 (p := ¬ en u r i = en u r j) (fun z => c1 ((en_eq (en_le u hr) (en_le u hr)).mpr z))).symm rfl
set_option maxHeartbeats 4000000 in
set_option maxRecDepth 100000 in
theorem lp_fn {X : hz_X} (C : hz_C X mX2_fitsNotes) {I : Nat → Nat → Int32} {L : Nat → Nat → Int64} {q : Nat → Nat → Nat} {u : Nat → Nat} (V : HV 12 q I u) (U : WU u) {k : Nat} (hk : k < u 64) (Z : hz_Z X 0 0 (some (.int (hz_b (fit u k = true)))) TT NN (msb (decide (0 < u 77)) u I, L, PP q))  : ∀ (n i : Nat) , i + n = u 77 → allb (fit1 u k) i = true → hz_G X TT NN (msb (decide (0 < i)) u I, L, PP q) 0 0 2 [some (.ref 12), some (.int (nI k)), some (.int (nI i))] [] := by
  intro n
  induction n with
  | zero =>
    intro i  hi hf
    obtain rfl : i = u 77 := by omega
    have hal := wu_al U
    have hnt := wu_nt U
    refine hz_iload_n (pc := 2) C dX2_fitsNotes_2 rfl ?_
    refine hz_aload_n (pc := 3) C dX2_fitsNotes_3 rfl ?_
    refine hz_getI (pc := 4) C (v := nI (u 77)) ffX2_74 dX2_fitsNotes_4 hT12 hA12 rfl (hv_nt (hv_msb V U (decide (0 < (u 77))))) ?_
    refine hz_ic_ge (pc := 7) C (tgt := 38) dX2_fitsNotes_7 rfl (fun _ => ?_) (fun cq => absurd (nI_le (by omega) (by omega)) cq)
    refine hz_iconst (pc := 38) C (v := nI 1) dX2_fitsNotes_38 (by decide +kernel) ?_
    exact hz_zret C Z rfl (by decide +kernel) dX2_fitsNotes_39 (hz_b1 hf).symm rfl
  | succ n ih =>
    intro i  hi hf
    have hal := wu_al U
    have hnt := wu_nt U
    have hnr := wu_nr U (i := i) (by omega)
    have hnq := wu_nq U (i := i) (by omega)
    refine hz_iload_n (pc := 2) C dX2_fitsNotes_2 rfl ?_
    refine hz_aload_n (pc := 3) C dX2_fitsNotes_3 rfl ?_
    refine hz_getI (pc := 4) C (v := nI (u 77)) ffX2_74 dX2_fitsNotes_4 hT12 hA12 rfl (hv_nt (hv_msb V U (decide (0 < i)))) ?_
    refine hz_ic_ge (pc := 7) C (tgt := 38) dX2_fitsNotes_7 rfl (fun cq => absurd cq (nI_ge (by omega) (by omega))) (fun _ => ?_)
    refine hz_aload_n (pc := 10) C dX2_fitsNotes_10 rfl ?_
    refine hz_aload_n (pc := 11) C dX2_fitsNotes_11 rfl ?_
    refine hz_getP (pc := 12) C (v := 17) ffX2_24 dX2_fitsNotes_12 hT12 hA12 rfl (hP12_5 q) (by decide) ?_
    refine hz_iload_n (pc := 15) C dX2_fitsNotes_15 rfl ?_
    refine hz_iald (pc := 16) C (v := nI (u (78 + 2 * i))) (j := i) dX2_fitsNotes_16 hT17 hA17 rfl (by omega) (by decide) (hv_nr (hv_msb V U (decide (0 < i))) (by omega)) ?_
    refine hz_iload_n (pc := 17) C dX2_fitsNotes_17 rfl ?_
    refine hz_callVs (pc := 18) C (as := [.int (nI (u (78 + 2 * i))), .int (nI k)]) (st := []) ((by have h9 := ev_entrance (L := L) (hv_msb V U (decide (0 < i))) U (r := u (78 + 2 * i)) (k := k) (by omega) (by omega); rw [ms_msb] at h9; exact h9)) (hz_new0 _ _) fyX2_entrance fvX2_153 rfl dX2_fitsNotes_18 hT12 rfl rfl hA12 rfl rfl (Nat.le_of_ble_eq_true rfl) (by decide) (hz_cap0 _) ?_
    refine hz_aload_n (pc := 21) C dX2_fitsNotes_21 rfl ?_
    refine hz_getP (pc := 22) C (v := 18) ffX2_27 dX2_fitsNotes_22 hT12 hA12 rfl (hP12_6 q) (by decide) ?_
    refine hz_iload_n (pc := 25) C dX2_fitsNotes_25 rfl ?_
    refine hz_iald (pc := 26) C (v := nI (u (79 + 2 * i)) - 1) (j := i) dX2_fitsNotes_26 hT18 hA18 rfl (by omega) (by decide) (hv_nq (hv_ms V U) (by omega)) ?_
    refine hz_ic_eq (pc := 27) C (tgt := 32) dX2_fitsNotes_27 rfl (fun c1 => ?_) (fun c1 => ?_)
    · refine hz_iinc (pc := 32) C (v := nI (i + 1)) (ls' := [some (.ref 12), some (.int (nI k)), some (.int (nI (i + 1)))]) dX2_fitsNotes_32 rfl (nI_add _ 1) rfl ?_
      refine hz_goto (pc := 35) C (tgt := 2) dX2_fitsNotes_35 rfl ?_
      have h9 := ih (i + 1) (by omega) (by rw [allb_t (by simp only [fit1, decide_eq_true_eq]; exact (en_eq (en_le u hnr) hnq).mp c1)]; exact hf)
      rw [msb_t (by simp)] at h9
      exact h9
    · refine hz_iconst (pc := 30) C (v := nI 0) dX2_fitsNotes_30 (by decide +kernel) ?_
      exact hz_zret C Z rfl (by decide +kernel) dX2_fitsNotes_31 (hz_b0 (allb_no (f := fit1 u k) (show i < u 77 by omega) (by simp only [fit1, decide_eq_true_eq]; exact fun z => c1 ((en_eq (en_le u hnr) hnq).mpr z)))).symm (by rw [msb_t (b := decide (0 < u 77)) (by simp; omega)])
set_option maxHeartbeats 4000000 in
set_option maxRecDepth 100000 in
theorem ev_fitsNotes {I : Nat → Nat → Int32} {L : Nat → Nat → Int64} {q : Nat → Nat → Nat} {u : Nat → Nat} (V : HV 12 q I u) (U : WU u) {k : Nat} (hk : k < u 64) : hz_Ev mX2_fitsNotes TT NN (I, L, PP q) [.ref 12, .int (nI k)] 0 0 (some (.int (hz_b (fit u k = true)))) TT NN (msb (decide (0 < u 77)) u I, L, PP q) := by
  refine hz_Ev.intro (ls := [some (.ref 12), some (.int (nI k)), none]) (by decide +kernel) rfl (Nat.le_of_ble_eq_true rfl) (fun X C Z _ => ?_)
  refine hz_iconst (pc := 0) C (v := nI 0) dX2_fitsNotes_0 (by decide +kernel) ?_
  refine hz_istore_n (pc := 1) C (ls' := [some (.ref 12), some (.int (nI k)), some (.int (nI 0))]) dX2_fitsNotes_1 (Nat.le_of_ble_eq_true rfl) rfl ?_
  exact lp_fn C V U hk Z (u 77) 0 (by omega) rfl
set_option maxHeartbeats 4000000 in
set_option maxRecDepth 100000 in
theorem lp_bf {X : hz_X} (C : hz_C X mX2_bitsFitting) {I : Nat → Nat → Int32} {L : Nat → Nat → Int64} {q : Nat → Nat → Nat} {u : Nat → Nat} (V : HV 12 q I u) (U : WU u) (kk : hz_G X TT NN (msb (decide (0 < u 77) && decide (0 < u 64)) u I, L, PP q) 0 0 32 [some (.ref 12), some (.int (nI (bsum (fit u) (u 64)))), some (.int (nI (u 64)))] []) : ∀ (n i : Nat) , i + n = u 64 → hz_G X TT NN (msb (decide (0 < u 77) && decide (0 < i)) u I, L, PP q) 0 0 4 [some (.ref 12), some (.int (nI (bsum (fit u) i))), some (.int (nI i))] [] := by
  intro n
  induction n with
  | zero =>
    intro i  hi 
    obtain rfl : i = u 64 := by omega
    have hal := wu_al U
    refine hz_iload_n (pc := 4) C dX2_bitsFitting_4 rfl ?_
    refine hz_aload_n (pc := 5) C dX2_bitsFitting_5 rfl ?_
    refine hz_getI (pc := 6) C (v := nI (u 64)) ffX2_70 dX2_bitsFitting_6 hT12 hA12 rfl (hv_al (hv_msb V U (decide (0 < u 77) && decide (0 < (u 64))))) ?_
    refine hz_ic_ge (pc := 9) C (tgt := 32) dX2_bitsFitting_9 rfl (fun _ => ?_) (fun cq => absurd (nI_le (by omega) (by omega)) cq)
    exact kk
  | succ n ih =>
    intro i  hi 
    have hal := wu_al U
    refine hz_iload_n (pc := 4) C dX2_bitsFitting_4 rfl ?_
    refine hz_aload_n (pc := 5) C dX2_bitsFitting_5 rfl ?_
    refine hz_getI (pc := 6) C (v := nI (u 64)) ffX2_70 dX2_bitsFitting_6 hT12 hA12 rfl (hv_al (hv_msb V U (decide (0 < u 77) && decide (0 < i)))) ?_
    refine hz_ic_ge (pc := 9) C (tgt := 32) dX2_bitsFitting_9 rfl (fun cq => absurd cq (nI_ge (by omega) (by omega))) (fun _ => ?_)
    refine hz_aload_n (pc := 12) C dX2_bitsFitting_12 rfl ?_
    refine hz_iload_n (pc := 13) C dX2_bitsFitting_13 rfl ?_
    refine hz_callVs (pc := 14) C (as := [.int (nI i)]) (st := []) (ev_fitsNotes (L := L) (hv_msb V U (decide (0 < u 77) && decide (0 < i))) U (k := i) (by omega)) (hz_new0 _ _) fyX2_fitsNotes fvX2_156 rfl dX2_bitsFitting_14 hT12 rfl rfl hA12 rfl rfl (Nat.le_of_ble_eq_true rfl) (by decide) (hz_cap0 _) ?_
    refine hz_ifb_eq (pc := 17) C (tgt := 26) dX2_bitsFitting_17 rfl (fun c1 => ?_) (fun c1 => ?_)
    · refine hz_iinc (pc := 26) C (v := nI (i + 1)) (ls' := [some (.ref 12), some (.int (nI (bsum (fit u) i))), some (.int (nI (i + 1)))]) dX2_bitsFitting_26 rfl (nI_add _ 1) rfl ?_
      refine hz_goto (pc := 29) C (tgt := 4) dX2_bitsFitting_29 rfl ?_
      have h9 := ih (i + 1) (by omega)
      rw [bsum_f (f := fit u) (n := i) c1] at h9
      rw [msb_msb, show ((decide (0 < u 77) && decide (0 < i)) || decide (0 < u 77)) = (decide (0 < u 77) && decide (0 < i + 1)) by cases decide (0 < u 77) <;> simp]
      exact h9
    · refine hz_iload_n (pc := 20) C dX2_bitsFitting_20 rfl ?_
      refine hz_iconst (pc := 21) C (v := nI 1) dX2_bitsFitting_21 (by decide +kernel) ?_
      refine hz_iload_n (pc := 22) C dX2_bitsFitting_22 rfl ?_
      refine hz_ishl (pc := 23) C dX2_bitsFitting_23 rfl ?_
      refine hz_ior (pc := 24) C dX2_bitsFitting_24 rfl ?_
      refine hz_istore_n (pc := 25) C (ls' := [some (.ref 12), some (.int ((nI (bsum (fit u) i)) ||| ((nI 1) <<< ((nI i) &&& 31)))), some (.int (nI i))]) dX2_bitsFitting_25 (Nat.le_of_ble_eq_true rfl) rfl ?_
      refine hz_iinc (pc := 26) C (v := nI (i + 1)) (ls' := [some (.ref 12), some (.int ((nI (bsum (fit u) i)) ||| ((nI 1) <<< ((nI i) &&& 31)))), some (.int (nI (i + 1)))]) dX2_bitsFitting_26 rfl (nI_add _ 1) rfl ?_
      refine hz_goto (pc := 29) C (tgt := 4) dX2_bitsFitting_29 rfl ?_
      have h9 := ih (i + 1) (by omega)
      rw [bsum_t (f := fit u) (n := i) c1] at h9
      rw [bor_add (by omega), msb_msb, show ((decide (0 < u 77) && decide (0 < i)) || decide (0 < u 77)) = (decide (0 < u 77) && decide (0 < i + 1)) by cases decide (0 < u 77) <;> simp]
      exact h9
set_option maxHeartbeats 4000000 in
set_option maxRecDepth 100000 in
theorem ev_bitsFitting {I : Nat → Nat → Int32} {L : Nat → Nat → Int64} {q : Nat → Nat → Nat} {u : Nat → Nat} (V : HV 12 q I u) (U : WU u) : hz_Ev mX2_bitsFitting TT NN (I, L, PP q) [.ref 12] 0 0 (some (.int (nI (bsum (fit u) (u 64))))) TT NN (msb (decide (0 < u 77) && decide (0 < u 64)) u I, L, PP q) := by
  refine hz_Ev.intro (ls := [some (.ref 12), none, none]) (by decide +kernel) rfl (Nat.le_of_ble_eq_true rfl) (fun X C Z _ => ?_)
  refine hz_iconst (pc := 0) C (v := nI 0) dX2_bitsFitting_0 (by decide +kernel) ?_
  refine hz_istore_n (pc := 1) C (ls' := [some (.ref 12), some (.int (nI 0)), none]) dX2_bitsFitting_1 (Nat.le_of_ble_eq_true rfl) rfl ?_
  refine hz_iconst (pc := 2) C (v := nI 0) dX2_bitsFitting_2 (by decide +kernel) ?_
  refine hz_istore_n (pc := 3) C (ls' := [some (.ref 12), some (.int (nI 0)), some (.int (nI 0))]) dX2_bitsFitting_3 (Nat.le_of_ble_eq_true rfl) rfl ?_
  refine Eq.mp (by simp [msb]) (?_ : hz_G X TT NN (msb (decide (0 < u 77) && decide (0 < 0)) u I, L, PP q) 0 0 4 [some (.ref 12), some (.int (nI 0)), some (.int (nI 0))] [])
  refine lp_bf C V U ?_ (u 64) 0 (by omega)
  refine hz_iload_n (pc := 32) C dX2_bitsFitting_32 rfl ?_
  exact hz_iret C Z rfl dX2_bitsFitting_33 rfl rfl

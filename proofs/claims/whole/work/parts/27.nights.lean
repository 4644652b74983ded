def nx (x : Nat) : Nat → Nat
  | 0 => x
  | n + 1 => (nx x n * 1103515245 + 12345) % 2147483648
theorem nx_le (x : Nat) (hx : x ≤ 999999) : ∀ n, nx x n < 2147483648 := by
  intro n
  cases n with
  | zero => show x < _; omega
  | succ n => exact Nat.mod_lt _ (by decide)
/-- whether something is heard in a room at a cold, by the three telling seconds; and by all of 0 to 119 -/
def nh (u : Nat → Nat) (r c : Nat) : Bool := anyb (fun k => mb u k && (rch u r k && so_ev (u (65 + k)) (nI c) (nI (u (94 + k))))) (u 64)
def nh2 (u : Nat → Nat) (r c s : Nat) : Bool := decide (¬ bsum (fun k => sinc u k (nI s) c && rch u r k) (u 64) = 0)
theorem bsum_nz {f : Nat → Bool} : ∀ {n k : Nat}, k < n → f k = true → ¬ bsum f n = 0 := by
  intro n
  induction n with
  | zero => intro k h; omega
  | succ n ih =>
    intro k h hf
    by_cases e : k = n
    · subst e
      rw [bsum_t hf]
      have : 0 < 2 ^ k := Nat.pow_pos (by decide)
      omega
    · have h1 := ih (show k < n by omega) hf
      simp only [bsum]
      omega
theorem nh_eq {u : Nat → Nat} (U : WU u) (r c : Nat) : anyb (nh2 u r c) 120 = nh u r c := by
  rw [Bool.eq_iff_iff]
  constructor
  · intro h
    obtain ⟨s, _, h2⟩ := anyb_ex h
    simp only [nh2, decide_eq_true_eq] at h2
    obtain ⟨k, hk, h3⟩ := anyb_ex (bsum_any h2)
    simp only [sinc, Bool.and_eq_true] at h3
    refine anyb_of hk ?_
    simp only [Bool.and_eq_true]
    exact ⟨h3.1.1, h3.2, so_any (wu_kd U hk) _ _ _ h3.1.2⟩
  · intro h
    obtain ⟨k, hk, h3⟩ := anyb_ex h
    simp only [Bool.and_eq_true] at h3
    obtain ⟨s, hs, h4⟩ := anyb_ex ((so_1230 (wu_kd U hk) (nI c) (nI (u (94 + k))) (N := 120) (by decide)).mpr h3.2.2)
    refine anyb_of hs ?_
    simp only [nh2, decide_eq_true_eq]
    refine bsum_nz hk ?_
    simp only [sinc, Bool.and_eq_true]
    exact ⟨⟨h3.1, h4⟩, h3.2.1⟩
def nr (y : Nat) : Nat := y / 65536 % 8
def nc (y : Nat) : Nat := y / 1048576 % 10
def nn (u : Nat → Nat) (x i : Nat) : Bool := nh u (nr (nx x (i + 1))) (nc (nx x (i + 1)))
set_option maxHeartbeats 4000000 in
set_option maxRecDepth 100000 in
theorem lp_ng {X : hz_X} (C : hz_C X mX10_nights) {I : Nat → Nat → Int32} {L : Nat → Nat → Int64} {q : Nat → Nat → Nat} {u : Nat → Nat} (V : HV 12 q I u) (U : WU u) {x m : Nat} (hx : x ≤ 999999) (hm : m ≤ 60)  (kk : ∀ w7 w8 : Option Value, hz_G X TT NN (msb (decide (0 < m) && anyb (mb u) (u 64)) u I, L, PP q) 0 0 105 [some (.ref 1), some (.int (nI x)), some (.int (nI m)), some (.int (nI (csum (nn u x) m))), some (.long (lN (nx x m))), none, some (.int (nI m)), w7, w8] []) : ∀ (n i : Nat) (w7 w8 : Option Value), i + n = m → hz_G X TT NN (msb (decide (0 < i) && anyb (mb u) (u 64)) u I, L, PP q) 0 0 34 [some (.ref 1), some (.int (nI x)), some (.int (nI m)), some (.int (nI (csum (nn u x) i))), some (.long (lN (nx x i))), none, some (.int (nI i)), w7, w8] [] := by
  intro n
  induction n with
  | zero =>
    intro i w7 w8 hi 
    obtain rfl : i = m := by omega
    skip
    refine hz_iload (pc := 34) C dX10_nights_34 rfl ?_
    refine hz_iload_n (pc := 36) C dX10_nights_36 rfl ?_
    refine hz_ic_ge (pc := 37) C (tgt := 105) dX10_nights_37 rfl (fun _ => ?_) (fun cq => absurd (nI_le (by omega) (by omega)) cq)
    exact kk _ _
  | succ n ih =>
    intro i w7 w8 hi 
    have hal := wu_al U
    have hxi := nx_le x hx i
    have hcl := csum_le (nn u x) i
    refine hz_iload (pc := 34) C dX10_nights_34 rfl ?_
    refine hz_iload_n (pc := 36) C dX10_nights_36 rfl ?_
    refine hz_ic_ge (pc := 37) C (tgt := 105) dX10_nights_37 rfl (fun cq => absurd cq (nI_ge (by omega) (by omega))) (fun _ => ?_)
    refine hz_lload (pc := 40) C dX10_nights_40 rfl ?_
    refine hz_ldc2 (pc := 42) C (v := lN 1103515245) dX10_nights_42 (hz_mp 830 (by decide +kernel)) ?_
    refine hz_lmul (pc := 45) C (v := lN ((nx x i) * 1103515245)) dX10_nights_45 (lN_mul _ _) ?_
    refine hz_ldc2 (pc := 46) C (v := lN 12345) dX10_nights_46 (hz_mp 831 (by decide +kernel)) ?_
    refine hz_ladd (pc := 49) C (v := lN (((nx x i) * 1103515245) + 12345)) dX10_nights_49 (lN_add _ _) ?_
    refine hz_ldc2 (pc := 50) C (v := lN 2147483648) dX10_nights_50 (hz_mp 832 (by decide +kernel)) ?_
    refine hz_lrem (pc := 53) C (v := lN ((((nx x i) * 1103515245) + 12345) % 2147483648)) dX10_nights_53 (by decide +kernel) (pk_lRem (by omega) (by decide) (by decide)) ?_
    refine hz_lstore (pc := 54) C (ls' := [some (.ref 1), some (.int (nI x)), some (.int (nI m)), some (.int (nI (csum (nn u x) i))), some (.long (lN ((((nx x i) * 1103515245) + 12345) % 2147483648))), none, some (.int (nI i)), w7, w8]) dX10_nights_54 (Nat.le_of_ble_eq_true rfl) rfl ?_
    refine hz_lload (pc := 56) C dX10_nights_56 rfl ?_
    refine hz_ldc2 (pc := 58) C (v := lN 65536) dX10_nights_58 (hz_mp 833 (by decide +kernel)) ?_
    refine hz_ldiv (pc := 61) C (v := lN (((((nx x i) * 1103515245) + 12345) % 2147483648) / 65536)) dX10_nights_61 (by decide +kernel) (pk_lDiv (by omega) (by decide) (by decide)) ?_
    refine hz_ldc2 (pc := 62) C (v := lN 8) dX10_nights_62 (hz_mp 834 (by decide +kernel)) ?_
    refine hz_lrem (pc := 65) C (v := lN ((((((nx x i) * 1103515245) + 12345) % 2147483648) / 65536) % 8)) dX10_nights_65 (by decide +kernel) (pk_lRem (by omega) (by decide) (by decide)) ?_
    refine hz_l2i (pc := 66) C (v := nI ((((((nx x i) * 1103515245) + 12345) % 2147483648) / 65536) % 8)) dX10_nights_66 (lN_i _) ?_
    refine hz_istore (pc := 67) C (ls' := [some (.ref 1), some (.int (nI x)), some (.int (nI m)), some (.int (nI (csum (nn u x) i))), some (.long (lN ((((nx x i) * 1103515245) + 12345) % 2147483648))), none, some (.int (nI i)), some (.int (nI ((((((nx x i) * 1103515245) + 12345) % 2147483648) / 65536) % 8))), w8]) dX10_nights_67 (Nat.le_of_ble_eq_true rfl) rfl ?_
    refine hz_lload (pc := 69) C dX10_nights_69 rfl ?_
    refine hz_ldc2 (pc := 71) C (v := lN 1048576) dX10_nights_71 (hz_mp 835 (by decide +kernel)) ?_
    refine hz_ldiv (pc := 74) C (v := lN (((((nx x i) * 1103515245) + 12345) % 2147483648) / 1048576)) dX10_nights_74 (by decide +kernel) (pk_lDiv (by omega) (by decide) (by decide)) ?_
    refine hz_ldc2 (pc := 75) C (v := lN 10) dX10_nights_75 (hz_mp 836 (by decide +kernel)) ?_
    refine hz_lrem (pc := 78) C (v := lN ((((((nx x i) * 1103515245) + 12345) % 2147483648) / 1048576) % 10)) dX10_nights_78 (by decide +kernel) (pk_lRem (by omega) (by decide) (by decide)) ?_
    refine hz_l2i (pc := 79) C (v := nI ((((((nx x i) * 1103515245) + 12345) % 2147483648) / 1048576) % 10)) dX10_nights_79 (lN_i _) ?_
    refine hz_istore (pc := 80) C (ls' := [some (.ref 1), some (.int (nI x)), some (.int (nI m)), some (.int (nI (csum (nn u x) i))), some (.long (lN ((((nx x i) * 1103515245) + 12345) % 2147483648))), none, some (.int (nI i)), some (.int (nI ((((((nx x i) * 1103515245) + 12345) % 2147483648) / 65536) % 8))), some (.int (nI ((((((nx x i) * 1103515245) + 12345) % 2147483648) / 1048576) % 10)))]) dX10_nights_80 (Nat.le_of_ble_eq_true rfl) rfl ?_
    refine hz_aload_n (pc := 82) C dX10_nights_82 rfl ?_
    refine hz_getP (pc := 83) C (v := 12) ffX10_26 dX10_nights_83 hT1 hA1 rfl (hP1_4 q) (by decide) ?_
    refine hz_iload (pc := 86) C dX10_nights_86 rfl ?_
    refine hz_iload (pc := 88) C dX10_nights_88 rfl ?_
    refine hz_callVs (pc := 90) C (as := [.int (nI ((((((nx x i) * 1103515245) + 12345) % 2147483648) / 65536) % 8)), .int (nI ((((((nx x i) * 1103515245) + 12345) % 2147483648) / 1048576) % 10))]) (st := []) ((by have h9 := ev_everHeard (L := L) (hv_msb V U (decide (0 < i) && anyb (mb u) (u 64))) U (r := (((((nx x i) * 1103515245) + 12345) % 2147483648) / 65536) % 8) (Nat.mod_lt _ (by decide)) (nI ((((((nx x i) * 1103515245) + 12345) % 2147483648) / 1048576) % 10)); rw [msb_msb] at h9; exact h9)) (hz_new0 _ _) fyX2_everHeard fvX10_261 rfl dX10_nights_90 hT12 rfl rfl hA12 rfl rfl (Nat.le_of_ble_eq_true rfl) (by decide) (hz_cap0 _) ?_
    refine hz_ifb_eq (pc := 93) C (tgt := 99) dX10_nights_93 rfl (fun c1 => ?_) (fun c1 => ?_)
    · refine hz_iinc (pc := 99) C (v := nI (i + 1)) (ls' := [some (.ref 1), some (.int (nI x)), some (.int (nI m)), some (.int (nI (csum (nn u x) i))), some (.long (lN ((((nx x i) * 1103515245) + 12345) % 2147483648))), none, some (.int (nI (i + 1))), some (.int (nI ((((((nx x i) * 1103515245) + 12345) % 2147483648) / 65536) % 8))), some (.int (nI ((((((nx x i) * 1103515245) + 12345) % 2147483648) / 1048576) % 10)))]) dX10_nights_99 rfl (nI_add _ 1) rfl ?_
      refine hz_goto (pc := 102) C (tgt := 34) dX10_nights_102 rfl ?_
      rw [show ((decide (0 < i) && anyb (mb u) (u 64)) || anyb (mb u) (u 64)) = (decide (0 < i + 1) && anyb (mb u) (u 64)) by cases anyb (mb u) (u 64) <;> simp]
      have h9 := ih (i + 1) (some (.int (nI (nr (nx x (i + 1)))))) (some (.int (nI (nc (nx x (i + 1)))))) (by omega)
      rw [csum_f (f := nn u x) (n := i) c1] at h9
      exact h9
    · refine hz_iinc (pc := 96) C (v := nI (csum (nn u x) i + 1)) (ls' := [some (.ref 1), some (.int (nI x)), some (.int (nI m)), some (.int (nI (csum (nn u x) i + 1))), some (.long (lN ((((nx x i) * 1103515245) + 12345) % 2147483648))), none, some (.int (nI i)), some (.int (nI ((((((nx x i) * 1103515245) + 12345) % 2147483648) / 65536) % 8))), some (.int (nI ((((((nx x i) * 1103515245) + 12345) % 2147483648) / 1048576) % 10)))]) dX10_nights_96 rfl (nI_add _ 1) rfl ?_
      refine hz_iinc (pc := 99) C (v := nI (i + 1)) (ls' := [some (.ref 1), some (.int (nI x)), some (.int (nI m)), some (.int (nI (csum (nn u x) i + 1))), some (.long (lN ((((nx x i) * 1103515245) + 12345) % 2147483648))), none, some (.int (nI (i + 1))), some (.int (nI ((((((nx x i) * 1103515245) + 12345) % 2147483648) / 65536) % 8))), some (.int (nI ((((((nx x i) * 1103515245) + 12345) % 2147483648) / 1048576) % 10)))]) dX10_nights_99 rfl (nI_add _ 1) rfl ?_
      refine hz_goto (pc := 102) C (tgt := 34) dX10_nights_102 rfl ?_
      rw [show ((decide (0 < i) && anyb (mb u) (u 64)) || anyb (mb u) (u 64)) = (decide (0 < i + 1) && anyb (mb u) (u 64)) by cases anyb (mb u) (u 64) <;> simp]
      have h9 := ih (i + 1) (some (.int (nI (nr (nx x (i + 1)))))) (some (.int (nI (nc (nx x (i + 1)))))) (by omega)
      rw [csum_t (f := nn u x) (n := i) c1] at h9
      exact h9
set_option maxHeartbeats 4000000 in
set_option maxRecDepth 100000 in
theorem ev_nights {I : Nat → Nat → Int32} {L : Nat → Nat → Int64} {q : Nat → Nat → Nat} {u : Nat → Nat} (V : HV 12 q I u) (U : WU u) {x m : Nat} (hx : x ≤ 999999) (hm : m ≤ 60)  : hz_Ev mX10_nights TT NN (I, L, PP q) [.ref 1, .int (nI x), .int (nI m)] 0 0 (some (.int (nI (csum (nn u x) m)))) TT NN (msb (decide (0 < m) && anyb (mb u) (u 64)) u I, L, PP q) := by
  refine hz_Ev.intro (ls := [some (.ref 1), some (.int (nI x)), some (.int (nI m)), none, none, none, none, none, none]) (by decide +kernel) rfl (Nat.le_of_ble_eq_true rfl) (fun X C Z _ => ?_)
  refine hz_iload_n (pc := 0) C dX10_nights_0 rfl ?_
  refine hz_iconst (pc := 1) C (v := nI 0) dX10_nights_1 (by decide +kernel) ?_
  refine hz_ldc (pc := 2) C (v := nI 999999) dX10_nights_2 (hz_mp 829 (by decide +kernel)) ?_
  refine hz_callSs (pc := 4) C (as := [.int (nI x), .int (nI 0), .int (nI 999999)]) (st := []) (ev_within _ (nI x) (nI 0) (nI 999999)) (hz_new0 _ _) fyX10_within fsX10_59 rfl dX10_nights_4 rfl rfl (Nat.le_of_ble_eq_true rfl) (by decide) (hz_cap0 _) ?_
  refine hz_ifb_eq (pc := 7) C (tgt := 20) dX10_nights_7 rfl (fun cq => absurd (vin (Nat.zero_le _) hx (by decide)) cq) (fun _ => ?_)
  refine hz_iload_n (pc := 10) C dX10_nights_10 rfl ?_
  refine hz_iconst (pc := 11) C (v := nI 0) dX10_nights_11 (by decide +kernel) ?_
  refine hz_bipush (pc := 12) C (v := nI 60) dX10_nights_12 (by decide +kernel) ?_
  refine hz_callSs (pc := 14) C (as := [.int (nI m), .int (nI 0), .int (nI 60)]) (st := []) (ev_within _ (nI m) (nI 0) (nI 60)) (hz_new0 _ _) fyX10_within fsX10_59 rfl dX10_nights_14 rfl rfl (Nat.le_of_ble_eq_true rfl) (by decide) (hz_cap0 _) ?_
  refine hz_ifb_ne (pc := 17) C (tgt := 25) dX10_nights_17 rfl (fun _ => ?_) (fun cq => absurd (vin (Nat.zero_le _) hm (by decide)) cq)
  refine hz_iconst (pc := 25) C (v := nI 0) dX10_nights_25 (by decide +kernel) ?_
  refine hz_istore_n (pc := 26) C (ls' := [some (.ref 1), some (.int (nI x)), some (.int (nI m)), some (.int (nI 0)), none, none, none, none, none]) dX10_nights_26 (Nat.le_of_ble_eq_true rfl) rfl ?_
  refine hz_iload_n (pc := 27) C dX10_nights_27 rfl ?_
  refine hz_i2l (pc := 28) C (v := lN x) dX10_nights_28 (nI_l (by omega)) ?_
  refine hz_lstore (pc := 29) C (ls' := [some (.ref 1), some (.int (nI x)), some (.int (nI m)), some (.int (nI 0)), some (.long (lN x)), none, none, none, none]) dX10_nights_29 (Nat.le_of_ble_eq_true rfl) rfl ?_
  refine hz_iconst (pc := 31) C (v := nI 0) dX10_nights_31 (by decide +kernel) ?_
  refine hz_istore (pc := 32) C (ls' := [some (.ref 1), some (.int (nI x)), some (.int (nI m)), some (.int (nI 0)), some (.long (lN x)), none, some (.int (nI 0)), none, none]) dX10_nights_32 (Nat.le_of_ble_eq_true rfl) rfl ?_
  refine lp_ng C V U hx hm (fun w7 w8 => ?_) m 0 none none (by omega)
  refine hz_iload_n (pc := 105) C dX10_nights_105 rfl ?_
  exact hz_iret C Z rfl dX10_nights_106 rfl rfl
set_option maxHeartbeats 4000000 in
set_option maxRecDepth 100000 in
theorem lp_nm2 {X : hz_X} (C : hz_C X mX11_nights) {I : Nat → Nat → Int32} {L : Nat → Nat → Int64} {q : Nat → Nat → Nat} {u : Nat → Nat} (V : MF I u) (U : WU u) {r c : Nat} (hr : r < 8) (hc : c ≤ 9) {w1 w2 w3 w4 w5 w6 : Option Value} (kk : hz_G X TT NN (I, L, PP q) 0 0 126 [some (.ref 146), w1, w2, w3, w4, w5, w6, some (.int (nI r)), some (.int (nI c)), some (.int (hz_b (anyb (nh2 u r c) 120 = true))), some (.int (nI 120))] []) : ∀ (n i : Nat) , i + n = 120 → hz_G X TT NN (I, L, PP q) 0 0 88 [some (.ref 146), w1, w2, w3, w4, w5, w6, some (.int (nI r)), some (.int (nI c)), some (.int (hz_b (anyb (nh2 u r c) i = true))), some (.int (nI i))] [] := by
  intro n
  induction n with
  | zero =>
    intro i  hi 
    obtain rfl : i = 120 := by omega
    skip
    refine hz_iload (pc := 88) C dX11_nights_88 rfl ?_
    refine hz_bipush (pc := 90) C (v := nI 120) dX11_nights_90 (by decide +kernel) ?_
    refine hz_ic_ge (pc := 92) C (tgt := 126) dX11_nights_92 rfl (fun _ => ?_) (fun cq => absurd (nI_le (by omega) (by omega)) cq)
    exact kk
  | succ n ih =>
    intro i  hi 
    have hal := wu_al U
    have hbs := bs64 (fun k => sinc u k (nI i) c && rch u r k) hal
    refine hz_iload (pc := 88) C dX11_nights_88 rfl ?_
    refine hz_bipush (pc := 90) C (v := nI 120) dX11_nights_90 (by decide +kernel) ?_
    refine hz_ic_ge (pc := 92) C (tgt := 126) dX11_nights_92 rfl (fun cq => absurd cq (nI_ge (by omega) (by omega))) (fun _ => ?_)
    refine hz_iload (pc := 95) C dX11_nights_95 rfl ?_
    refine hz_ifb_ne (pc := 97) C (tgt := 113) dX11_nights_97 rfl (fun c1 => ?_) (fun c1 => ?_)
    · refine hz_iconst (pc := 113) C (v := nI 1) dX11_nights_113 (by decide +kernel) ?_
      refine hz_goto (pc := 114) C (tgt := 118) dX11_nights_114 rfl ?_
      refine hz_istore (pc := 118) C (ls' := [some (.ref 146), w1, w2, w3, w4, w5, w6, some (.int (nI r)), some (.int (nI c)), some (.int (nI 1)), some (.int (nI i))]) dX11_nights_118 (Nat.le_of_ble_eq_true rfl) rfl ?_
      refine hz_iinc (pc := 120) C (v := nI (i + 1)) (ls' := [some (.ref 146), w1, w2, w3, w4, w5, w6, some (.int (nI r)), some (.int (nI c)), some (.int (nI 1)), some (.int (nI (i + 1)))]) dX11_nights_120 rfl (nI_add _ 1) rfl ?_
      refine hz_goto (pc := 123) C (tgt := 88) dX11_nights_123 rfl ?_
      have h9 := ih (i + 1) (by omega)
      rw [hz_b1 (p := anyb (nh2 u r c) (i + 1) = true) (by simp [anyb, c1])] at h9
      exact h9
    · refine hz_aload_n (pc := 100) C dX11_nights_100 rfl ?_
      refine hz_iload (pc := 101) C dX11_nights_101 rfl ?_
      refine hz_iload (pc := 103) C dX11_nights_103 rfl ?_
      refine hz_iload (pc := 105) C dX11_nights_105 rfl ?_
      refine hz_callVs (pc := 107) C (as := [.int (nI r), .int (nI i), .int (nI c)]) (st := []) (ev_heardBy V U (r := r) (by omega) (nI i) (c := c) (by omega)) (hz_new0 _ _) fyX11_heardBy fvX11_149 rfl dX11_nights_107 hT146 rfl rfl hA146 rfl rfl (Nat.le_of_ble_eq_true rfl) (by decide) (hz_cap0 _) ?_
      refine hz_if_eq (pc := 110) C (tgt := 117) dX11_nights_110 rfl (fun c2 => ?_) (fun c2 => ?_)
      · refine hz_iconst (pc := 117) C (v := nI 0) dX11_nights_117 (by decide +kernel) ?_
        refine hz_istore (pc := 118) C (ls' := [some (.ref 146), w1, w2, w3, w4, w5, w6, some (.int (nI r)), some (.int (nI c)), some (.int (nI 0)), some (.int (nI i))]) dX11_nights_118 (Nat.le_of_ble_eq_true rfl) rfl ?_
        refine hz_iinc (pc := 120) C (v := nI (i + 1)) (ls' := [some (.ref 146), w1, w2, w3, w4, w5, w6, some (.int (nI r)), some (.int (nI c)), some (.int (nI 0)), some (.int (nI (i + 1)))]) dX11_nights_120 rfl (nI_add _ 1) rfl ?_
        refine hz_goto (pc := 123) C (tgt := 88) dX11_nights_123 rfl ?_
        have h9 := ih (i + 1) (by omega)
        rw [hz_b0 (p := anyb (nh2 u r c) (i + 1) = true) (by simp only [anyb, nh2, Bool.or_eq_true, decide_eq_true_eq]; exact fun z => z.elim c1 (fun y => y ((nI_z (by omega)).mp c2)))] at h9
        exact h9
      · refine hz_iconst (pc := 113) C (v := nI 1) dX11_nights_113 (by decide +kernel) ?_
        refine hz_goto (pc := 114) C (tgt := 118) dX11_nights_114 rfl ?_
        refine hz_istore (pc := 118) C (ls' := [some (.ref 146), w1, w2, w3, w4, w5, w6, some (.int (nI r)), some (.int (nI c)), some (.int (nI 1)), some (.int (nI i))]) dX11_nights_118 (Nat.le_of_ble_eq_true rfl) rfl ?_
        refine hz_iinc (pc := 120) C (v := nI (i + 1)) (ls' := [some (.ref 146), w1, w2, w3, w4, w5, w6, some (.int (nI r)), some (.int (nI c)), some (.int (nI 1)), some (.int (nI (i + 1)))]) dX11_nights_120 rfl (nI_add _ 1) rfl ?_
        refine hz_goto (pc := 123) C (tgt := 88) dX11_nights_123 rfl ?_
        have h9 := ih (i + 1) (by omega)
        rw [hz_b1 (p := anyb (nh2 u r c) (i + 1) = true) (by simp only [anyb, nh2, Bool.or_eq_true, decide_eq_true_eq]; exact Or.inr (fun z => c2 ((nI_z (by omega)).mpr z)))] at h9
        exact h9
set_option maxHeartbeats 4000000 in
set_option maxRecDepth 100000 in
theorem lp_nm1b {X : hz_X} (C : hz_C X mX11_nights) {I : Nat → Nat → Int32} {L : Nat → Nat → Int64} {q : Nat → Nat → Nat} {u : Nat → Nat} (V : MF I u) (U : WU u) {x m : Nat} (hx : x ≤ 999999) (hm : m ≤ 60)  (kk : ∀ w7 w8 w9 w10 : Option Value, hz_G X TT NN (I, L, PP q) 0 0 147 [some (.ref 146), some (.int (nI x)), some (.int (nI m)), some (.long (lN (nx x m))), none, some (.int (nI (csum (nn u x) m))), some (.int (nI m)), w7, w8, w9, w10] []) : ∀ (n i : Nat) (w7 w8 w9 w10 : Option Value), i + n = m → hz_G X TT NN (I, L, PP q) 0 0 38 [some (.ref 146), some (.int (nI x)), some (.int (nI m)), some (.long (lN (nx x i))), none, some (.int (nI (csum (nn u x) i))), some (.int (nI i)), w7, w8, w9, w10] [] := by
  intro n
  induction n with
  | zero =>
    intro i w7 w8 w9 w10 hi 
    obtain rfl : i = m := by omega
    skip
    refine hz_iload (pc := 38) C dX11_nights_38 rfl ?_
    refine hz_iload_n (pc := 40) C dX11_nights_40 rfl ?_
    refine hz_ic_ge (pc := 41) C (tgt := 147) dX11_nights_41 rfl (fun _ => ?_) (fun cq => absurd (nI_le (by omega) (by omega)) cq)
    exact kk _ _ _ _
  | succ n ih =>
    intro i w7 w8 w9 w10 hi 
    have hal := wu_al U
    have hxi := nx_le x hx i
    have hcl := csum_le (nn u x) i
    refine hz_iload (pc := 38) C dX11_nights_38 rfl ?_
    refine hz_iload_n (pc := 40) C dX11_nights_40 rfl ?_
    refine hz_ic_ge (pc := 41) C (tgt := 147) dX11_nights_41 rfl (fun cq => absurd cq (nI_ge (by omega) (by omega))) (fun _ => ?_)
    refine hz_lload_n (pc := 44) C dX11_nights_44 rfl ?_
    refine hz_ldc2 (pc := 45) C (v := lN 1103515245) dX11_nights_45 (hz_mp 1226 (by decide +kernel)) ?_
    refine hz_lmul (pc := 48) C (v := lN ((nx x i) * 1103515245)) dX11_nights_48 (lN_mul _ _) ?_
    refine hz_ldc2 (pc := 49) C (v := lN 12345) dX11_nights_49 (hz_mp 1227 (by decide +kernel)) ?_
    refine hz_ladd (pc := 52) C (v := lN (((nx x i) * 1103515245) + 12345)) dX11_nights_52 (lN_add _ _) ?_
    refine hz_ldc2 (pc := 53) C (v := lN 2147483648) dX11_nights_53 (hz_mp 1228 (by decide +kernel)) ?_
    refine hz_lrem (pc := 56) C (v := lN ((((nx x i) * 1103515245) + 12345) % 2147483648)) dX11_nights_56 (by decide +kernel) (pk_lRem (by omega) (by decide) (by decide)) ?_
    refine hz_lstore_n (pc := 57) C (ls' := [some (.ref 146), some (.int (nI x)), some (.int (nI m)), some (.long (lN ((((nx x i) * 1103515245) + 12345) % 2147483648))), none, some (.int (nI (csum (nn u x) i))), some (.int (nI i)), w7, w8, w9, w10]) dX11_nights_57 (Nat.le_of_ble_eq_true rfl) rfl ?_
    refine hz_lload_n (pc := 58) C dX11_nights_58 rfl ?_
    refine hz_ldc2 (pc := 59) C (v := lN 65536) dX11_nights_59 (hz_mp 1229 (by decide +kernel)) ?_
    refine hz_ldiv (pc := 62) C (v := lN (((((nx x i) * 1103515245) + 12345) % 2147483648) / 65536)) dX11_nights_62 (by decide +kernel) (pk_lDiv (by omega) (by decide) (by decide)) ?_
    refine hz_ldc2 (pc := 63) C (v := lN 8) dX11_nights_63 (hz_mp 1230 (by decide +kernel)) ?_
    refine hz_lrem (pc := 66) C (v := lN ((((((nx x i) * 1103515245) + 12345) % 2147483648) / 65536) % 8)) dX11_nights_66 (by decide +kernel) (pk_lRem (by omega) (by decide) (by decide)) ?_
    refine hz_l2i (pc := 67) C (v := nI ((((((nx x i) * 1103515245) + 12345) % 2147483648) / 65536) % 8)) dX11_nights_67 (lN_i _) ?_
    refine hz_istore (pc := 68) C (ls' := [some (.ref 146), some (.int (nI x)), some (.int (nI m)), some (.long (lN ((((nx x i) * 1103515245) + 12345) % 2147483648))), none, some (.int (nI (csum (nn u x) i))), some (.int (nI i)), some (.int (nI ((((((nx x i) * 1103515245) + 12345) % 2147483648) / 65536) % 8))), w8, w9, w10]) dX11_nights_68 (Nat.le_of_ble_eq_true rfl) rfl ?_
    refine hz_lload_n (pc := 70) C dX11_nights_70 rfl ?_
    refine hz_ldc2 (pc := 71) C (v := lN 1048576) dX11_nights_71 (hz_mp 1231 (by decide +kernel)) ?_
    refine hz_ldiv (pc := 74) C (v := lN (((((nx x i) * 1103515245) + 12345) % 2147483648) / 1048576)) dX11_nights_74 (by decide +kernel) (pk_lDiv (by omega) (by decide) (by decide)) ?_
    refine hz_ldc2 (pc := 75) C (v := lN 10) dX11_nights_75 (hz_mp 1220 (by decide +kernel)) ?_
    refine hz_lrem (pc := 78) C (v := lN ((((((nx x i) * 1103515245) + 12345) % 2147483648) / 1048576) % 10)) dX11_nights_78 (by decide +kernel) (pk_lRem (by omega) (by decide) (by decide)) ?_
    refine hz_l2i (pc := 79) C (v := nI ((((((nx x i) * 1103515245) + 12345) % 2147483648) / 1048576) % 10)) dX11_nights_79 (lN_i _) ?_
    refine hz_istore (pc := 80) C (ls' := [some (.ref 146), some (.int (nI x)), some (.int (nI m)), some (.long (lN ((((nx x i) * 1103515245) + 12345) % 2147483648))), none, some (.int (nI (csum (nn u x) i))), some (.int (nI i)), some (.int (nI ((((((nx x i) * 1103515245) + 12345) % 2147483648) / 65536) % 8))), some (.int (nI ((((((nx x i) * 1103515245) + 12345) % 2147483648) / 1048576) % 10))), w9, w10]) dX11_nights_80 (Nat.le_of_ble_eq_true rfl) rfl ?_
    refine hz_iconst (pc := 82) C (v := nI 0) dX11_nights_82 (by decide +kernel) ?_
    refine hz_istore (pc := 83) C (ls' := [some (.ref 146), some (.int (nI x)), some (.int (nI m)), some (.long (lN ((((nx x i) * 1103515245) + 12345) % 2147483648))), none, some (.int (nI (csum (nn u x) i))), some (.int (nI i)), some (.int (nI ((((((nx x i) * 1103515245) + 12345) % 2147483648) / 65536) % 8))), some (.int (nI ((((((nx x i) * 1103515245) + 12345) % 2147483648) / 1048576) % 10))), some (.int (nI 0)), w10]) dX11_nights_83 (Nat.le_of_ble_eq_true rfl) rfl ?_
    refine hz_iconst (pc := 85) C (v := nI 0) dX11_nights_85 (by decide +kernel) ?_
    refine hz_istore (pc := 86) C (ls' := [some (.ref 146), some (.int (nI x)), some (.int (nI m)), some (.long (lN ((((nx x i) * 1103515245) + 12345) % 2147483648))), none, some (.int (nI (csum (nn u x) i))), some (.int (nI i)), some (.int (nI ((((((nx x i) * 1103515245) + 12345) % 2147483648) / 65536) % 8))), some (.int (nI ((((((nx x i) * 1103515245) + 12345) % 2147483648) / 1048576) % 10))), some (.int (nI 0)), some (.int (nI 0))]) dX11_nights_86 (Nat.le_of_ble_eq_true rfl) rfl ?_
    refine lp_nm2 C V U (r := nr (nx x (i + 1))) (c := nc (nx x (i + 1))) (Nat.mod_lt _ (by decide)) (Nat.le_of_lt_succ (Nat.mod_lt _ (by decide))) ?_ 120 0 (by omega)
    rw [nh_eq U]
    refine hz_iload (pc := 126) C dX11_nights_126 rfl ?_
    refine hz_iload (pc := 128) C dX11_nights_128 rfl ?_
    refine hz_ifb_eq (pc := 130) C (tgt := 137) dX11_nights_130 rfl (fun c1 => ?_) (fun c1 => ?_)
    · refine hz_iconst (pc := 137) C (v := nI 0) dX11_nights_137 (by decide +kernel) ?_
      refine hz_iadd (pc := 138) C (v := nI ((csum (nn u x) i) + 0)) dX11_nights_138 (nI_add _ _) ?_
      refine hz_istore (pc := 139) C (ls' := [some (.ref 146), some (.int (nI x)), some (.int (nI m)), some (.long (lN ((((nx x i) * 1103515245) + 12345) % 2147483648))), none, some (.int (nI ((csum (nn u x) i) + 0))), some (.int (nI i)), some (.int (nI ((((((nx x i) * 1103515245) + 12345) % 2147483648) / 65536) % 8))), some (.int (nI ((((((nx x i) * 1103515245) + 12345) % 2147483648) / 1048576) % 10))), some (.int (hz_b (nn u x i = true))), some (.int (nI 120))]) dX11_nights_139 (Nat.le_of_ble_eq_true rfl) rfl ?_
      refine hz_iinc (pc := 141) C (v := nI (i + 1)) (ls' := [some (.ref 146), some (.int (nI x)), some (.int (nI m)), some (.long (lN ((((nx x i) * 1103515245) + 12345) % 2147483648))), none, some (.int (nI ((csum (nn u x) i) + 0))), some (.int (nI (i + 1))), some (.int (nI ((((((nx x i) * 1103515245) + 12345) % 2147483648) / 65536) % 8))), some (.int (nI ((((((nx x i) * 1103515245) + 12345) % 2147483648) / 1048576) % 10))), some (.int (hz_b (nn u x i = true))), some (.int (nI 120))]) dX11_nights_141 rfl (nI_add _ 1) rfl ?_
      refine hz_goto (pc := 144) C (tgt := 38) dX11_nights_144 rfl ?_
      have h9 := ih (i + 1) (some (.int (nI (nr (nx x (i + 1)))))) (some (.int (nI (nc (nx x (i + 1)))))) (some (.int (hz_b (nn u x i = true)))) (some (.int (nI 120))) (by omega)
      rw [csum_f (f := nn u x) (n := i) c1] at h9
      exact h9
    · refine hz_iconst (pc := 133) C (v := nI 1) dX11_nights_133 (by decide +kernel) ?_
      refine hz_goto (pc := 134) C (tgt := 138) dX11_nights_134 rfl ?_
      refine hz_iadd (pc := 138) C (v := nI ((csum (nn u x) i) + 1)) dX11_nights_138 (nI_add _ _) ?_
      refine hz_istore (pc := 139) C (ls' := [some (.ref 146), some (.int (nI x)), some (.int (nI m)), some (.long (lN ((((nx x i) * 1103515245) + 12345) % 2147483648))), none, some (.int (nI ((csum (nn u x) i) + 1))), some (.int (nI i)), some (.int (nI ((((((nx x i) * 1103515245) + 12345) % 2147483648) / 65536) % 8))), some (.int (nI ((((((nx x i) * 1103515245) + 12345) % 2147483648) / 1048576) % 10))), some (.int (hz_b (nn u x i = true))), some (.int (nI 120))]) dX11_nights_139 (Nat.le_of_ble_eq_true rfl) rfl ?_
      refine hz_iinc (pc := 141) C (v := nI (i + 1)) (ls' := [some (.ref 146), some (.int (nI x)), some (.int (nI m)), some (.long (lN ((((nx x i) * 1103515245) + 12345) % 2147483648))), none, some (.int (nI ((csum (nn u x) i) + 1))), some (.int (nI (i + 1))), some (.int (nI ((((((nx x i) * 1103515245) + 12345) % 2147483648) / 65536) % 8))), some (.int (nI ((((((nx x i) * 1103515245) + 12345) % 2147483648) / 1048576) % 10))), some (.int (hz_b (nn u x i = true))), some (.int (nI 120))]) dX11_nights_141 rfl (nI_add _ 1) rfl ?_
      refine hz_goto (pc := 144) C (tgt := 38) dX11_nights_144 rfl ?_
      have h9 := ih (i + 1) (some (.int (nI (nr (nx x (i + 1)))))) (some (.int (nI (nc (nx x (i + 1)))))) (some (.int (hz_b (nn u x i = true)))) (some (.int (nI 120))) (by omega)
      rw [csum_t (f := nn u x) (n := i) c1] at h9
      exact h9
set_option maxHeartbeats 4000000 in
set_option maxRecDepth 100000 in
theorem ev_nightsM {I : Nat → Nat → Int32} {L : Nat → Nat → Int64} {q : Nat → Nat → Nat} {u : Nat → Nat} (V : MV I u) (U : WU u) {x m : Nat} (hx : x ≤ 999999) (hm : m ≤ 60)  : hz_Ev mX11_nights TT NN (I, L, PP q) [.ref 146, .int (nI x), .int (nI m)] 0 0 (some (.int (nI (csum (nn u x) m)))) TT NN (lm u I, L, PP q) := by
  refine hz_Ev.intro (ls := [some (.ref 146), some (.int (nI x)), some (.int (nI m)), none, none, none, none, none, none, none, none]) (by decide +kernel) rfl (Nat.le_of_ble_eq_true rfl) (fun X C Z _ => ?_)
  refine hz_iload_n (pc := 0) C dX11_nights_0 rfl ?_
  refine hz_iconst (pc := 1) C (v := nI 0) dX11_nights_1 (by decide +kernel) ?_
  refine hz_ldc (pc := 2) C (v := nI 999999) dX11_nights_2 (hz_mp 1225 (by decide +kernel)) ?_
  refine hz_callSs (pc := 4) C (as := [.int (nI x), .int (nI 0), .int (nI 999999)]) (st := []) (ev_in _ (nI x) (nI 0) (nI 999999)) (hz_new0 _ _) fyX11_in fsX11_52 rfl dX11_nights_4 rfl rfl (Nat.le_of_ble_eq_true rfl) (by decide) (hz_cap0 _) ?_
  refine hz_ifb_eq (pc := 7) C (tgt := 20) dX11_nights_7 rfl (fun cq => absurd (vin (Nat.zero_le _) hx (by decide)) cq) (fun _ => ?_)
  refine hz_iload_n (pc := 10) C dX11_nights_10 rfl ?_
  refine hz_iconst (pc := 11) C (v := nI 0) dX11_nights_11 (by decide +kernel) ?_
  refine hz_bipush (pc := 12) C (v := nI 60) dX11_nights_12 (by decide +kernel) ?_
  refine hz_callSs (pc := 14) C (as := [.int (nI m), .int (nI 0), .int (nI 60)]) (st := []) (ev_in _ (nI m) (nI 0) (nI 60)) (hz_new0 _ _) fyX11_in fsX11_52 rfl dX11_nights_14 rfl rfl (Nat.le_of_ble_eq_true rfl) (by decide) (hz_cap0 _) ?_
  refine hz_ifb_ne (pc := 17) C (tgt := 25) dX11_nights_17 rfl (fun _ => ?_) (fun cq => absurd (vin (Nat.zero_le _) hm (by decide)) cq)
  refine hz_aload_n (pc := 25) C dX11_nights_25 rfl ?_
  refine hz_callVv (pc := 26) C (as := []) (st := []) (ev_layFar V U) (hz_new0 _ _) fyX11_layFar fvX11_146 rfl dX11_nights_26 hT146 rfl rfl hA146 rfl rfl (Nat.le_of_ble_eq_true rfl) (by decide) (hz_cap0 _) ?_
  refine hz_iload_n (pc := 29) C dX11_nights_29 rfl ?_
  refine hz_i2l (pc := 30) C (v := lN x) dX11_nights_30 (nI_l (by omega)) ?_
  refine hz_lstore_n (pc := 31) C (ls' := [some (.ref 146), some (.int (nI x)), some (.int (nI m)), some (.long (lN x)), none, none, none, none, none, none, none]) dX11_nights_31 (Nat.le_of_ble_eq_true rfl) rfl ?_
  refine hz_iconst (pc := 32) C (v := nI 0) dX11_nights_32 (by decide +kernel) ?_
  refine hz_istore (pc := 33) C (ls' := [some (.ref 146), some (.int (nI x)), some (.int (nI m)), some (.long (lN x)), none, some (.int (nI 0)), none, none, none, none, none]) dX11_nights_33 (Nat.le_of_ble_eq_true rfl) rfl ?_
  refine hz_iconst (pc := 35) C (v := nI 0) dX11_nights_35 (by decide +kernel) ?_
  refine hz_istore (pc := 36) C (ls' := [some (.ref 146), some (.int (nI x)), some (.int (nI m)), some (.long (lN x)), none, some (.int (nI 0)), some (.int (nI 0)), none, none, none, none]) dX11_nights_36 (Nat.le_of_ble_eq_true rfl) rfl ?_
  refine lp_nm1b C (mf_lm V) U hx hm (fun w7 w8 w9 w10 => ?_) m 0 none none none none (by omega)
  refine hz_iload (pc := 147) C dX11_nights_147 rfl ?_
  exact hz_iret C Z rfl dX11_nights_149 rfl rfl

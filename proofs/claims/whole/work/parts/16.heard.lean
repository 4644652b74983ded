set_option maxHeartbeats 4000000 in
set_option maxRecDepth 100000 in
theorem ev_everS (M : hz_M) {k : Nat} (hk : k < 6) (c b : Int32) : hz_Ev mX6_everSounds TT NN M [.ref (23 + k), .int c, .int b] 0 0 (some (.int (hz_b (so_ev k c b = true)))) TT NN M := by
  refine hz_Ev.intro (ls := [some (.ref (23 + k)), some (.int c), some (.int b), none]) (by decide +kernel) rfl (Nat.le_of_ble_eq_true rfl) (fun X C Z _ => ?_)
  refine hz_iconst (pc := 0) C (v := nI 0) dX6_everSounds_0 (by decide +kernel) ?_
  refine hz_istore_n (pc := 1) C (ls' := [some (.ref (23 + k)), some (.int c), some (.int b), some (.int (nI 0))]) dX6_everSounds_1 (Nat.le_of_ble_eq_true rfl) rfl ?_
  refine hz_iload_n (pc := 2) C dX6_everSounds_2 rfl ?_
  refine hz_tget (pc := 3) C (hz_mn 675 (by decide +kernel)) dX6_everSounds_3 ?_
  refine hz_tlen (pc := 6) C dX6_everSounds_6 ?_
  refine hz_ic_ge (pc := 7) C (tgt := 32) dX6_everSounds_7 rfl (fun cq => absurd cq (by decide +kernel)) (fun _ => ?_)
  refine hz_aload_n (pc := 10) C dX6_everSounds_10 rfl ?_
  refine hz_tget (pc := 11) C (hz_mn 675 (by decide +kernel)) dX6_everSounds_11 ?_
  refine hz_iload_n (pc := 14) C dX6_everSounds_14 rfl ?_
  refine hz_tld (pc := 15) C (j := 0) (v := nI 0) (by decide) rfl dX6_everSounds_15 ?_
  refine hz_iload_n (pc := 16) C dX6_everSounds_16 rfl ?_
  refine hz_iload_n (pc := 17) C dX6_everSounds_17 rfl ?_
  refine kc_so (pc := 18) (k := k) (st := []) C fvX6_13_X6 fvX6_13_X4 fvX6_13_X9 fvX6_13_X0 fvX6_13_X5 fvX6_13_X1 (by omega) dX6_everSounds_18 rfl (Nat.le_of_ble_eq_true rfl) (by decide) ?_
  refine hz_ifb_eq (pc := 21) C (tgt := 26) dX6_everSounds_21 rfl (fun c1 => ?_) (fun c1 => ?_)
  · refine hz_iinc (pc := 26) C (v := nI 1) (ls' := [some (.ref (23 + k)), some (.int c), some (.int b), some (.int (nI 1))]) dX6_everSounds_26 rfl (nI_add _ 1) rfl ?_
    refine hz_goto (pc := 29) C (tgt := 2) dX6_everSounds_29 rfl ?_
    refine hz_iload_n (pc := 2) C dX6_everSounds_2 rfl ?_
    refine hz_tget (pc := 3) C (hz_mn 675 (by decide +kernel)) dX6_everSounds_3 ?_
    refine hz_tlen (pc := 6) C dX6_everSounds_6 ?_
    refine hz_ic_ge (pc := 7) C (tgt := 32) dX6_everSounds_7 rfl (fun cq => absurd cq (by decide +kernel)) (fun _ => ?_)
    refine hz_aload_n (pc := 10) C dX6_everSounds_10 rfl ?_
    refine hz_tget (pc := 11) C (hz_mn 675 (by decide +kernel)) dX6_everSounds_11 ?_
    refine hz_iload_n (pc := 14) C dX6_everSounds_14 rfl ?_
    refine hz_tld (pc := 15) C (j := 1) (v := nI 7) (by decide) rfl dX6_everSounds_15 ?_
    refine hz_iload_n (pc := 16) C dX6_everSounds_16 rfl ?_
    refine hz_iload_n (pc := 17) C dX6_everSounds_17 rfl ?_
    refine kc_so (pc := 18) (k := k) (st := []) C fvX6_13_X6 fvX6_13_X4 fvX6_13_X9 fvX6_13_X0 fvX6_13_X5 fvX6_13_X1 (by omega) dX6_everSounds_18 rfl (Nat.le_of_ble_eq_true rfl) (by decide) ?_
    refine hz_ifb_eq (pc := 21) C (tgt := 26) dX6_everSounds_21 rfl (fun c2 => ?_) (fun c2 => ?_)
    · refine hz_iinc (pc := 26) C (v := nI 2) (ls' := [some (.ref (23 + k)), some (.int c), some (.int b), some (.int (nI 2))]) dX6_everSounds_26 rfl (nI_add _ 1) rfl ?_
      refine hz_goto (pc := 29) C (tgt := 2) dX6_everSounds_29 rfl ?_
      refine hz_iload_n (pc := 2) C dX6_everSounds_2 rfl ?_
      refine hz_tget (pc := 3) C (hz_mn 675 (by decide +kernel)) dX6_everSounds_3 ?_
      refine hz_tlen (pc := 6) C dX6_everSounds_6 ?_
      refine hz_ic_ge (pc := 7) C (tgt := 32) dX6_everSounds_7 rfl (fun cq => absurd cq (by decide +kernel)) (fun _ => ?_)
      refine hz_aload_n (pc := 10) C dX6_everSounds_10 rfl ?_
      refine hz_tget (pc := 11) C (hz_mn 675 (by decide +kernel)) dX6_everSounds_11 ?_
      refine hz_iload_n (pc := 14) C dX6_everSounds_14 rfl ?_
      refine hz_tld (pc := 15) C (j := 2) (v := nI 20) (by decide) rfl dX6_everSounds_15 ?_
      refine hz_iload_n (pc := 16) C dX6_everSounds_16 rfl ?_
      refine hz_iload_n (pc := 17) C dX6_everSounds_17 rfl ?_
      refine kc_so (pc := 18) (k := k) (st := []) C fvX6_13_X6 fvX6_13_X4 fvX6_13_X9 fvX6_13_X0 fvX6_13_X5 fvX6_13_X1 (by omega) dX6_everSounds_18 rfl (Nat.le_of_ble_eq_true rfl) (by decide) ?_
      refine hz_ifb_eq (pc := 21) C (tgt := 26) dX6_everSounds_21 rfl (fun c3 => ?_) (fun c3 => ?_)
      · refine hz_iinc (pc := 26) C (v := nI 3) (ls' := [some (.ref (23 + k)), some (.int c), some (.int b), some (.int (nI 3))]) dX6_everSounds_26 rfl (nI_add _ 1) rfl ?_
        refine hz_goto (pc := 29) C (tgt := 2) dX6_everSounds_29 rfl ?_
        refine hz_iload_n (pc := 2) C dX6_everSounds_2 rfl ?_
        refine hz_tget (pc := 3) C (hz_mn 675 (by decide +kernel)) dX6_everSounds_3 ?_
        refine hz_tlen (pc := 6) C dX6_everSounds_6 ?_
        refine hz_ic_ge (pc := 7) C (tgt := 32) dX6_everSounds_7 rfl (fun _ => ?_) (fun cq => absurd (by decide +kernel) cq)
        refine hz_iconst (pc := 32) C (v := nI 0) dX6_everSounds_32 (by decide +kernel) ?_
        exact hz_zret C Z rfl (by decide +kernel) dX6_everSounds_33 (hz_b0 (by simp [so_ev, c1, c2, c3])).symm rfl
      · refine hz_iconst (pc := 24) C (v := nI 1) dX6_everSounds_24 (by decide +kernel) ?_
        exact hz_zret C Z rfl (by decide +kernel) dX6_everSounds_25 (hz_b1 (by simp [so_ev, c1, c2, c3])).symm rfl
    · refine hz_iconst (pc := 24) C (v := nI 1) dX6_everSounds_24 (by decide +kernel) ?_
      exact hz_zret C Z rfl (by decide +kernel) dX6_everSounds_25 (hz_b1 (by simp [so_ev, c1, c2])).symm rfl
  · refine hz_iconst (pc := 24) C (v := nI 1) dX6_everSounds_24 (by decide +kernel) ?_
    exact hz_zret C Z rfl (by decide +kernel) dX6_everSounds_25 (hz_b1 (by simp [so_ev, c1])).symm rfl
set_option maxHeartbeats 4000000 in
set_option maxRecDepth 100000 in
theorem kc_ev {X : hz_X} {y : hz_Y} {M : hz_M} {pc ix k : Nat} {ls : List (Option Value)} {st : List Value} {c b : Int32} (C : hz_C X y) (F0 : hz_FV y.1.cls ix mX6_everSounds) (F1 : hz_FU y.1.cls ix RX4 RX6 yX6_everSounds mX6_everSounds) (F2 : hz_FU y.1.cls ix RX9 RX6 yX6_everSounds mX6_everSounds) (F3 : hz_FU y.1.cls ix RX0 RX6 yX6_everSounds mX6_everSounds) (F4 : hz_FU y.1.cls ix RX5 RX6 yX6_everSounds mX6_everSounds) (F5 : hz_FU y.1.cls ix RX1 RX6 yX6_everSounds mX6_everSounds) (hk : k < 6) (d : decode y.2.1 pc = .ok (.invokevirtual ix, 3)) (hlen : ls.length = y.2.2.1) (hsum : (st.map Value.category).sum ≤ 8) (hd : 4 ≤ y.2.2.2.2) (kk : hz_G X TT NN M 0 0 (pc + 3) ls (.int (hz_b (so_ev k c b = true)) :: st)) : hz_G X TT NN M 0 0 pc ls (.int b :: .int c :: .ref (23 + k) :: st) := by
  rcases (show k = 0 ∨ k = 1 ∨ k = 2 ∨ k = 3 ∨ k = 4 ∨ k = 5 by omega) with rfl | rfl | rfl | rfl | rfl | rfl
  · exact hz_callV C (as := [.int c, .int b]) (st := st) (ev_everS M (k := 0) hk c b) (hz_new0 _ _) fyX6_everSounds F0 rfl d hT23 rfl rfl hA23 rfl hlen hsum (Nat.le_trans (by decide) hd) (hz_cap0 _) kk
  · exact hz_callU C (as := [.int c, .int b]) (st := st) (ev_everS M (k := 1) hk c b) (hz_new0 _ _) fyX6_everSounds F1 rfl d hT24 rfl hA24 rfl hlen hsum (Nat.le_trans (by decide) hd) (hz_cap0 _) kk
  · exact hz_callU C (as := [.int c, .int b]) (st := st) (ev_everS M (k := 2) hk c b) (hz_new0 _ _) fyX6_everSounds F2 rfl d hT25 rfl hA25 rfl hlen hsum (Nat.le_trans (by decide) hd) (hz_cap0 _) kk
  · exact hz_callU C (as := [.int c, .int b]) (st := st) (ev_everS M (k := 3) hk c b) (hz_new0 _ _) fyX6_everSounds F3 rfl d hT26 rfl hA26 rfl hlen hsum (Nat.le_trans (by decide) hd) (hz_cap0 _) kk
  · exact hz_callU C (as := [.int c, .int b]) (st := st) (ev_everS M (k := 4) hk c b) (hz_new0 _ _) fyX6_everSounds F4 rfl d hT27 rfl hA27 rfl hlen hsum (Nat.le_trans (by decide) hd) (hz_cap0 _) kk
  · exact hz_callU C (as := [.int c, .int b]) (st := st) (ev_everS M (k := 5) hk c b) (hz_new0 _ _) fyX6_everSounds F5 rfl d hT28 rfl hA28 rfl hlen hsum (Nat.le_trans (by decide) hd) (hz_cap0 _) kk
def bsum (f : Nat → Bool) : Nat → Nat
  | 0 => 0
  | n + 1 => bsum f n + (if f n = true then 2 ^ n else 0)
def anyb (f : Nat → Bool) : Nat → Bool
  | 0 => false
  | n + 1 => anyb f n || f n
def csum (f : Nat → Bool) : Nat → Nat
  | 0 => 0
  | n + 1 => csum f n + (if f n = true then 1 else 0)
theorem csum_le (f : Nat → Bool) : ∀ n, csum f n ≤ n := by
  intro n
  induction n with
  | zero => exact Nat.le_refl _
  | succ n ih => simp only [csum]; split <;> omega
theorem bsum_lt (f : Nat → Bool) : ∀ n, bsum f n < 2 ^ n := by
  intro n
  induction n with
  | zero => exact Nat.one_pos
  | succ n ih => simp only [bsum, Nat.pow_succ]; split <;> omega
theorem bor_add {k : Nat} (hk : k < 6) (f : Nat → Bool) : nI (bsum f k) ||| (nI 1 <<< (nI k &&& 31)) = nI (bsum f k + 2 ^ k) := by
  have h : ∀ k, k < 6 → ∀ d, d < 2 ^ k → nI d ||| (nI 1 <<< (nI k &&& 31)) = nI (d + 2 ^ k) := by decide +kernel
  exact h k hk _ (bsum_lt f k)
theorem bor_0 {k : Nat} (hk : k < 6) (f : Nat → Bool) : nI (bsum f k) ||| nI 0 = nI (bsum f k) := by
  have h : ∀ d, d < 32 → nI d ||| nI 0 = nI d := by decide +kernel
  exact h _ (Nat.lt_of_lt_of_le (bsum_lt f k) (show 2 ^ k ≤ 32 from Nat.pow_le_pow_right (n := 2) (i := k) (j := 5) (by decide) (by omega)))
theorem bsum_t {f : Nat → Bool} {n : Nat} (h : f n = true) : bsum f (n + 1) = bsum f n + 2 ^ n := by simp [bsum, h]
theorem bsum_f {f : Nat → Bool} {n : Nat} (h : ¬ f n = true) : bsum f (n + 1) = bsum f n := by simp [bsum, h]
theorem csum_t {f : Nat → Bool} {n : Nat} (h : f n = true) : csum f (n + 1) = csum f n + 1 := by simp [csum, h]
theorem csum_f {f : Nat → Bool} {n : Nat} (h : ¬ f n = true) : csum f (n + 1) = csum f n := by simp [csum, h]
theorem anyb_t {f : Nat → Bool} {n : Nat} (h : f n = true) : anyb f (n + 1) = true := by simp [anyb, h]
theorem anyb_f {f : Nat → Bool} {n : Nat} (h : ¬ f n = true) : anyb f (n + 1) = anyb f n := by simp [anyb, h]
theorem hv_msb {q : Nat → Nat → Nat} {I : Nat → Nat → Int32} {u : Nat → Nat} (V : HV 12 q I u) (U : WU u) (b : Bool) : HV 12 q (msb b u I) u := by
  unfold msb
  split
  · exact hv_ms V U
  · exact V
theorem msb_t {b : Bool} (h : b = true) (u : Nat → Nat) (I : Nat → Nat → Int32) : msb b u I = ms u I := if_pos h
def anyp (f : Nat → Bool) (n : Nat) : Bool := anyb f n
set_option maxHeartbeats 4000000 in
set_option maxRecDepth 100000 in
theorem lp_bh {X : hz_X} (C : hz_C X mX2_bitsHeard) {I : Nat → Nat → Int32} {L : Nat → Nat → Int64} {q : Nat → Nat → Nat} {u : Nat → Nat} (V : HV 12 q I u) (U : WU u) {r : Nat} (hr : r < 8) (s : Int32) (kk : hz_G X TT NN (msb (anyb (fun k => sin u k s) (u 64)) u I, L, PP q) 0 0 47 [some (.ref 12), some (.int (nI r)), some (.int s), some (.int (nI (bsum (fun k => sin u k s && rch u r k) (u 64)))), some (.int (nI (u 64)))] []) : ∀ (n i : Nat) , i + n = u 64 → hz_G X TT NN (msb (anyb (fun k => sin u k s) i) u I, L, PP q) 0 0 5 [some (.ref 12), some (.int (nI r)), some (.int s), some (.int (nI (bsum (fun k => sin u k s && rch u r k) i))), some (.int (nI i))] [] := by
  intro n
  induction n with
  | zero =>
    intro i  hi 
    obtain rfl : i = u 64 := by omega
    have hal := wu_al U
    have VB := hv_msb V U (anyb (fun k => sin u k s) (u 64))
    refine hz_iload (pc := 5) C dX2_bitsHeard_5 rfl ?_
    refine hz_aload_n (pc := 7) C dX2_bitsHeard_7 rfl ?_
    refine hz_getI (pc := 8) C (v := nI (u 64)) ffX2_70 dX2_bitsHeard_8 hT12 hA12 rfl (hv_al (hv_msb V U (anyb (fun k => sin u k s) (u 64)))) ?_
    refine hz_ic_ge (pc := 11) C (tgt := 47) dX2_bitsHeard_11 rfl (fun _ => ?_) (fun cq => absurd (nI_le (by omega) (by omega)) cq)
    exact kk
  | succ n ih =>
    intro i  hi 
    have hal := wu_al U
    have VB := hv_msb V U (anyb (fun k => sin u k s) i)
    refine hz_iload (pc := 5) C dX2_bitsHeard_5 rfl ?_
    refine hz_aload_n (pc := 7) C dX2_bitsHeard_7 rfl ?_
    refine hz_getI (pc := 8) C (v := nI (u 64)) ffX2_70 dX2_bitsHeard_8 hT12 hA12 rfl (hv_al (hv_msb V U (anyb (fun k => sin u k s) i))) ?_
    refine hz_ic_ge (pc := 11) C (tgt := 47) dX2_bitsHeard_11 rfl (fun cq => absurd cq (nI_ge (by omega) (by omega))) (fun _ => ?_)
    refine hz_aload_n (pc := 14) C dX2_bitsHeard_14 rfl ?_
    refine hz_iload (pc := 15) C dX2_bitsHeard_15 rfl ?_
    refine hz_iload_n (pc := 17) C dX2_bitsHeard_17 rfl ?_
    refine hz_callVs (pc := 18) C (as := [.int (nI i), .int s]) (st := []) (ev_soundsIn (hv_msb V U (anyb (fun k => sin u k s) i)) U (k := i) (by omega) s) (hz_new0 _ _) fyX2_soundsIn fvX2_141 rfl dX2_bitsHeard_18 hT12 rfl rfl hA12 rfl rfl (Nat.le_of_ble_eq_true rfl) (by decide) (hz_cap0 _) ?_
    refine hz_ifb_eq (pc := 21) C (tgt := 41) dX2_bitsHeard_21 rfl (fun c1 => ?_) (fun c1 => ?_)
    · refine hz_iinc (pc := 41) C (v := nI (i + 1)) (ls' := [some (.ref 12), some (.int (nI r)), some (.int s), some (.int (nI (bsum (fun k => sin u k s && rch u r k) i))), some (.int (nI (i + 1)))]) dX2_bitsHeard_41 rfl (nI_add _ 1) rfl ?_
      refine hz_goto (pc := 44) C (tgt := 5) dX2_bitsHeard_44 rfl ?_
      have h9 := ih (i + 1) (by omega)
      rw [bsum_f (f := (fun k => sin u k s && rch u r k)) (n := i) (by simp [c1]), anyb_f (f := (fun k => sin u k s)) (n := i) c1] at h9
      exact h9
    · refine hz_aload_n (pc := 24) C dX2_bitsHeard_24 rfl ?_
      refine hz_iload_n (pc := 25) C dX2_bitsHeard_25 rfl ?_
      refine hz_iload (pc := 26) C dX2_bitsHeard_26 rfl ?_
      refine hz_callVs (pc := 28) C (as := [.int (nI r), .int (nI i)]) (st := []) ((by have h9 := ev_reaches (L := L) (hv_msb V U (anyb (fun k => sin u k s) i)) U (k := i) (by omega) (r := r) (by omega); rw [ms_msb] at h9; exact h9)) (hz_new0 _ _) fyX2_reaches fvX2_144 rfl dX2_bitsHeard_28 hT12 rfl rfl hA12 rfl rfl (Nat.le_of_ble_eq_true rfl) (by decide) (hz_cap0 _) ?_
      refine hz_ifb_eq (pc := 31) C (tgt := 41) dX2_bitsHeard_31 rfl (fun c2 => ?_) (fun c2 => ?_)
      · refine hz_iinc (pc := 41) C (v := nI (i + 1)) (ls' := [some (.ref 12), some (.int (nI r)), some (.int s), some (.int (nI (bsum (fun k => sin u k s && rch u r k) i))), some (.int (nI (i + 1)))]) dX2_bitsHeard_41 rfl (nI_add _ 1) rfl ?_
        refine hz_goto (pc := 44) C (tgt := 5) dX2_bitsHeard_44 rfl ?_
        have h9 := ih (i + 1) (by omega)
        rw [bsum_f (f := (fun k => sin u k s && rch u r k)) (n := i) (by simp [c2]), anyb_t (f := (fun k => sin u k s)) (n := i) c1, msb_t rfl] at h9
        exact h9
      · refine hz_iload_n (pc := 34) C dX2_bitsHeard_34 rfl ?_
        refine hz_iconst (pc := 35) C (v := nI 1) dX2_bitsHeard_35 (by decide +kernel) ?_
        refine hz_iload (pc := 36) C dX2_bitsHeard_36 rfl ?_
        refine hz_ishl (pc := 38) C dX2_bitsHeard_38 rfl ?_
        refine hz_ior (pc := 39) C dX2_bitsHeard_39 rfl ?_
        refine hz_istore_n (pc := 40) C (ls' := [some (.ref 12), some (.int (nI r)), some (.int s), some (.int ((nI (bsum (fun k => sin u k s && rch u r k) i)) ||| ((nI 1) <<< ((nI i) &&& 31)))), some (.int (nI i))]) dX2_bitsHeard_40 (Nat.le_of_ble_eq_true rfl) rfl ?_
        refine hz_iinc (pc := 41) C (v := nI (i + 1)) (ls' := [some (.ref 12), some (.int (nI r)), some (.int s), some (.int ((nI (bsum (fun k => sin u k s && rch u r k) i)) ||| ((nI 1) <<< ((nI i) &&& 31)))), some (.int (nI (i + 1)))]) dX2_bitsHeard_41 rfl (nI_add _ 1) rfl ?_
        refine hz_goto (pc := 44) C (tgt := 5) dX2_bitsHeard_44 rfl ?_
        rw [bor_add (by omega)]
        have h9 := ih (i + 1) (by omega)
        rw [bsum_t (f := (fun k => sin u k s && rch u r k)) (n := i) (by simp [c1, c2]), anyb_t (f := (fun k => sin u k s)) (n := i) c1, msb_t rfl] at h9
        exact h9
set_option maxHeartbeats 4000000 in
set_option maxRecDepth 100000 in
theorem ev_bitsHeard {I : Nat → Nat → Int32} {L : Nat → Nat → Int64} {q : Nat → Nat → Nat} {u : Nat → Nat} (V : HV 12 q I u) (U : WU u) {r : Nat} (hr : r < 8) (s : Int32) : hz_Ev mX2_bitsHeard TT NN (I, L, PP q) [.ref 12, .int (nI r), .int s] 0 0 (some (.int (nI (bsum (fun k => sin u k s && rch u r k) (u 64))))) TT NN (msb (anyb (fun k => sin u k s) (u 64)) u I, L, PP q) := by
  refine hz_Ev.intro (ls := [some (.ref 12), some (.int (nI r)), some (.int s), none, none]) (by decide +kernel) rfl (Nat.le_of_ble_eq_true rfl) (fun X C Z _ => ?_)
  refine hz_iconst (pc := 0) C (v := nI 0) dX2_bitsHeard_0 (by decide +kernel) ?_
  refine hz_istore_n (pc := 1) C (ls' := [some (.ref 12), some (.int (nI r)), some (.int s), some (.int (nI 0)), none]) dX2_bitsHeard_1 (Nat.le_of_ble_eq_true rfl) rfl ?_
  refine hz_iconst (pc := 2) C (v := nI 0) dX2_bitsHeard_2 (by decide +kernel) ?_
  refine hz_istore (pc := 3) C (ls' := [some (.ref 12), some (.int (nI r)), some (.int s), some (.int (nI 0)), some (.int (nI 0))]) dX2_bitsHeard_3 (Nat.le_of_ble_eq_true rfl) rfl ?_
  refine lp_bh C V U hr s ?_ (u 64) 0 (by omega)
  refine hz_iload_n (pc := 47) C dX2_bitsHeard_47 rfl ?_
  exact hz_iret C Z rfl dX2_bitsHeard_48 rfl rfl
set_option maxHeartbeats 4000000 in
set_option maxRecDepth 100000 in
theorem lp_hm {X : hz_X} (C : hz_C X mX2_howManyReach) {I : Nat → Nat → Int32} {L : Nat → Nat → Int64} {q : Nat → Nat → Nat} {u : Nat → Nat} (V : HV 12 q I u) (U : WU u) {r : Nat} (hr : r < 8) (kk : hz_G X TT NN (msb (decide (0 < (u 64))) u I, L, PP q) 0 0 30 [some (.ref 12), some (.int (nI r)), some (.int (nI (csum (fun k => rch u r k) (u 64)))), some (.int (nI (u 64)))] []) : ∀ (n i : Nat) , i + n = u 64 → hz_G X TT NN (msb (decide (0 < i)) u I, L, PP q) 0 0 4 [some (.ref 12), some (.int (nI r)), some (.int (nI (csum (fun k => rch u r k) i))), some (.int (nI i))] [] := by
  intro n
  induction n with
  | zero =>
    intro i  hi 
    obtain rfl : i = u 64 := by omega
    have hal := wu_al U
    have VB := hv_msb V U (decide (0 < u 64))
    refine hz_iload_n (pc := 4) C dX2_howManyReach_4 rfl ?_
    refine hz_aload_n (pc := 5) C dX2_howManyReach_5 rfl ?_
    refine hz_getI (pc := 6) C (v := nI (u 64)) ffX2_70 dX2_howManyReach_6 hT12 hA12 rfl (hv_al (hv_msb V U (decide (0 < (u 64))))) ?_
    refine hz_ic_ge (pc := 9) C (tgt := 30) dX2_howManyReach_9 rfl (fun _ => ?_) (fun cq => absurd (nI_le (by omega) (by omega)) cq)
    exact kk
  | succ n ih =>
    intro i  hi 
    have hal := wu_al U
    have VB := hv_msb V U (decide (0 < i))
    refine hz_iload_n (pc := 4) C dX2_howManyReach_4 rfl ?_
    refine hz_aload_n (pc := 5) C dX2_howManyReach_5 rfl ?_
    refine hz_getI (pc := 6) C (v := nI (u 64)) ffX2_70 dX2_howManyReach_6 hT12 hA12 rfl (hv_al (hv_msb V U (decide (0 < i)))) ?_
    refine hz_ic_ge (pc := 9) C (tgt := 30) dX2_howManyReach_9 rfl (fun cq => absurd cq (nI_ge (by omega) (by omega))) (fun _ => ?_)
    refine hz_aload_n (pc := 12) C dX2_howManyReach_12 rfl ?_
    refine hz_iload_n (pc := 13) C dX2_howManyReach_13 rfl ?_
    refine hz_iload_n (pc := 14) C dX2_howManyReach_14 rfl ?_
    refine hz_callVs (pc := 15) C (as := [.int (nI r), .int (nI i)]) (st := []) ((by have h9 := ev_reaches (L := L) (hv_msb V U (decide (0 < i))) U (k := i) (by omega) (r := r) (by omega); rw [ms_msb] at h9; exact h9)) (hz_new0 _ _) fyX2_reaches fvX2_144 rfl dX2_howManyReach_15 hT12 rfl rfl hA12 rfl rfl (Nat.le_of_ble_eq_true rfl) (by decide) (hz_cap0 _) ?_
    refine hz_ifb_eq (pc := 18) C (tgt := 24) dX2_howManyReach_18 rfl (fun c1 => ?_) (fun c1 => ?_)
    · refine hz_iinc (pc := 24) C (v := nI (i + 1)) (ls' := [some (.ref 12), some (.int (nI r)), some (.int (nI (csum (fun k => rch u r k) i))), some (.int (nI (i + 1)))]) dX2_howManyReach_24 rfl (nI_add _ 1) rfl ?_
      refine hz_goto (pc := 27) C (tgt := 4) dX2_howManyReach_27 rfl ?_
      have h9 := ih (i + 1) (by omega)
      rw [csum_f (f := (fun k => rch u r k)) (n := i) c1, msb_t (by simp)] at h9
      exact h9
    · refine hz_iinc (pc := 21) C (v := nI (csum (fun k => rch u r k) i + 1)) (ls' := [some (.ref 12), some (.int (nI r)), some (.int (nI (csum (fun k => rch u r k) i + 1))), some (.int (nI i))]) dX2_howManyReach_21 rfl (nI_add _ 1) rfl ?_
      refine hz_iinc (pc := 24) C (v := nI (i + 1)) (ls' := [some (.ref 12), some (.int (nI r)), some (.int (nI (csum (fun k => rch u r k) i + 1))), some (.int (nI (i + 1)))]) dX2_howManyReach_24 rfl (nI_add _ 1) rfl ?_
      refine hz_goto (pc := 27) C (tgt := 4) dX2_howManyReach_27 rfl ?_
      have h9 := ih (i + 1) (by omega)
      rw [csum_t (f := (fun k => rch u r k)) (n := i) c1, msb_t (by simp)] at h9
      exact h9
set_option maxHeartbeats 4000000 in
set_option maxRecDepth 100000 in
theorem ev_howMany {I : Nat → Nat → Int32} {L : Nat → Nat → Int64} {q : Nat → Nat → Nat} {u : Nat → Nat} (V : HV 12 q I u) (U : WU u) {r : Nat} (hr : r < 8) : hz_Ev mX2_howManyReach TT NN (I, L, PP q) [.ref 12, .int (nI r)] 0 0 (some (.int (nI (csum (fun k => rch u r k) (u 64))))) TT NN (msb (decide (0 < u 64)) u I, L, PP q) := by
  refine hz_Ev.intro (ls := [some (.ref 12), some (.int (nI r)), none, none]) (by decide +kernel) rfl (Nat.le_of_ble_eq_true rfl) (fun X C Z _ => ?_)
  refine hz_iconst (pc := 0) C (v := nI 0) dX2_howManyReach_0 (by decide +kernel) ?_
  refine hz_istore_n (pc := 1) C (ls' := [some (.ref 12), some (.int (nI r)), some (.int (nI 0)), none]) dX2_howManyReach_1 (Nat.le_of_ble_eq_true rfl) rfl ?_
  refine hz_iconst (pc := 2) C (v := nI 0) dX2_howManyReach_2 (by decide +kernel) ?_
  refine hz_istore_n (pc := 3) C (ls' := [some (.ref 12), some (.int (nI r)), some (.int (nI 0)), some (.int (nI 0))]) dX2_howManyReach_3 (Nat.le_of_ble_eq_true rfl) rfl ?_
  refine lp_hm C V U hr ?_ (u 64) 0 (by omega)
  refine hz_iload_n (pc := 30) C dX2_howManyReach_30 rfl ?_
  exact hz_iret C Z rfl dX2_howManyReach_31 rfl rfl
theorem anyb_of {f : Nat → Bool} : ∀ {n k : Nat}, k < n → f k = true → anyb f n = true := by
  intro n
  induction n with
  | zero => intro k h; omega
  | succ n ih =>
    intro k h hf
    by_cases e : k = n
    · subst e; exact anyb_t hf
    · simp [anyb, ih (show k < n by omega) hf]
set_option maxHeartbeats 4000000 in
set_option maxRecDepth 100000 in
theorem lp_eh {X : hz_X} (C : hz_C X mX2_everHeard) {I : Nat → Nat → Int32} {L : Nat → Nat → Int64} {q : Nat → Nat → Nat} {u : Nat → Nat} (V : HV 12 q I u) (U : WU u) {r : Nat} (hr : r < 8) (c : Int32) (Z : hz_Z X 0 0 (some (.int (hz_b (anyb (fun k => mb u k && (rch u r k && so_ev (u (65 + k)) c (nI (u (94 + k))))) (u 64) = true)))) TT NN (msb (anyb (mb u) (u 64)) u I, L, PP q))  : ∀ (n i : Nat) , i + n = u 64 → anyb (fun k => mb u k && (rch u r k && so_ev (u (65 + k)) c (nI (u (94 + k))))) i = false → hz_G X TT NN (msb (anyb (mb u) i) u I, L, PP q) 0 0 2 [some (.ref 12), some (.int (nI r)), some (.int c), some (.int (nI i))] [] := by
  intro n
  induction n with
  | zero =>
    intro i  hi hf
    obtain rfl : i = u 64 := by omega
    have hal := wu_al U
    have VB := hv_msb V U (anyb (mb u) (u 64))
    refine hz_iload_n (pc := 2) C dX2_everHeard_2 rfl ?_
    refine hz_aload_n (pc := 3) C dX2_everHeard_3 rfl ?_
    refine hz_getI (pc := 4) C (v := nI (u 64)) ffX2_70 dX2_everHeard_4 hT12 hA12 rfl (hv_al (hv_msb V U (anyb (mb u) (u 64)))) ?_
    refine hz_ic_ge (pc := 7) C (tgt := 56) dX2_everHeard_7 rfl (fun _ => ?_) (fun cq => absurd (nI_le (by omega) (by omega)) cq)
    refine hz_iconst (pc := 56) C (v := nI 0) dX2_everHeard_56 (by decide +kernel) ?_
    exact hz_zret C Z rfl (by decide +kernel) dX2_everHeard_57 (hz_b0 (by rw [hf]; decide)).symm rfl
  | succ n ih =>
    intro i  hi hf
    have hal := wu_al U
    have hkd := wu_kd U (k := i) (by omega)
    have VB := hv_msb V U (anyb (mb u) i)
    refine hz_iload_n (pc := 2) C dX2_everHeard_2 rfl ?_
    refine hz_aload_n (pc := 3) C dX2_everHeard_3 rfl ?_
    refine hz_getI (pc := 4) C (v := nI (u 64)) ffX2_70 dX2_everHeard_4 hT12 hA12 rfl (hv_al (hv_msb V U (anyb (mb u) i))) ?_
    refine hz_ic_ge (pc := 7) C (tgt := 56) dX2_everHeard_7 rfl (fun cq => absurd cq (nI_ge (by omega) (by omega))) (fun _ => ?_)
    refine hz_aload_n (pc := 10) C dX2_everHeard_10 rfl ?_
    refine hz_iload_n (pc := 11) C dX2_everHeard_11 rfl ?_
    refine hz_callVs (pc := 12) C (as := [.int (nI i)]) (st := []) (ev_mayBeep (hv_msb V U (anyb (mb u) i)) U (k := i) (by omega)) (hz_new0 _ _) fyX2_mayBeep fvX2_126 rfl dX2_everHeard_12 hT12 rfl rfl hA12 rfl rfl (Nat.le_of_ble_eq_true rfl) (by decide) (hz_cap0 _) ?_
    refine hz_ifb_eq (pc := 15) C (tgt := 50) dX2_everHeard_15 rfl (fun c1 => ?_) (fun c1 => ?_)
    · refine hz_iinc (pc := 50) C (v := nI (i + 1)) (ls' := [some (.ref 12), some (.int (nI r)), some (.int c), some (.int (nI (i + 1)))]) dX2_everHeard_50 rfl (nI_add _ 1) rfl ?_
      refine hz_goto (pc := 53) C (tgt := 2) dX2_everHeard_53 rfl ?_
      have h9 := ih (i + 1) (by omega) (by rw [anyb_f (by simp [c1])]; exact hf)
      rw [anyb_f (f := mb u) (n := i) c1] at h9
      exact h9
    · refine hz_aload_n (pc := 18) C dX2_everHeard_18 rfl ?_
      refine hz_iload_n (pc := 19) C dX2_everHeard_19 rfl ?_
      refine hz_iload_n (pc := 20) C dX2_everHeard_20 rfl ?_
      refine hz_callVs (pc := 21) C (as := [.int (nI r), .int (nI i)]) (st := []) ((by have h9 := ev_reaches (L := L) (hv_msb V U (anyb (mb u) i)) U (k := i) (by omega) (r := r) (by omega); rw [ms_msb] at h9; exact h9)) (hz_new0 _ _) fyX2_reaches fvX2_144 rfl dX2_everHeard_21 hT12 rfl rfl hA12 rfl rfl (Nat.le_of_ble_eq_true rfl) (by decide) (hz_cap0 _) ?_
      refine hz_ifb_eq (pc := 24) C (tgt := 50) dX2_everHeard_24 rfl (fun c2 => ?_) (fun c2 => ?_)
      · refine hz_iinc (pc := 50) C (v := nI (i + 1)) (ls' := [some (.ref 12), some (.int (nI r)), some (.int c), some (.int (nI (i + 1)))]) dX2_everHeard_50 rfl (nI_add _ 1) rfl ?_
        refine hz_goto (pc := 53) C (tgt := 2) dX2_everHeard_53 rfl ?_
        have h9 := ih (i + 1) (by omega) (by rw [anyb_f (by simp [c2])]; exact hf)
        rw [anyb_t (f := mb u) (n := i) c1, msb_t rfl] at h9
        exact h9
      · refine hz_aload_n (pc := 27) C dX2_everHeard_27 rfl ?_
        refine hz_iload_n (pc := 28) C dX2_everHeard_28 rfl ?_
        refine hz_callVs (pc := 29) C (as := [.int (nI i)]) (st := []) (ev_kindOf (hv_ms V U) U (k := i) (by omega)) (hz_new0 _ _) fyX2_kindOf fvX2_118 rfl dX2_everHeard_29 hT12 rfl rfl hA12 rfl rfl (Nat.le_of_ble_eq_true rfl) (by decide) (hz_cap0 _) ?_
        refine hz_iload_n (pc := 32) C dX2_everHeard_32 rfl ?_
        refine hz_aload_n (pc := 33) C dX2_everHeard_33 rfl ?_
        refine hz_getP (pc := 34) C (v := 19) ffX2_33 dX2_everHeard_34 hT12 hA12 rfl (hP12_7 q) (by decide) ?_
        refine hz_getP (pc := 37) C (v := 20) ffX2_102 dX2_everHeard_37 hT19 hA19 rfl (hP19_0 q) (by decide) ?_
        refine hz_iload_n (pc := 40) C dX2_everHeard_40 rfl ?_
        refine hz_iald (pc := 41) C (v := nI (u (94 + i))) (j := i) dX2_everHeard_41 hT20 hA20 rfl (by omega) (by decide) (hv_ba (hv_ms V U) (by omega)) ?_
        refine kc_ev (pc := 42) (k := u (65 + i)) (st := []) C fvX2_147_X6 fvX2_147_X4 fvX2_147_X9 fvX2_147_X0 fvX2_147_X5 fvX2_147_X1 (by omega) dX2_everHeard_42 rfl (Nat.le_of_ble_eq_true rfl) (by decide) ?_
        refine hz_ifb_eq (pc := 45) C (tgt := 50) dX2_everHeard_45 rfl (fun c3 => ?_) (fun c3 => ?_)
        · refine hz_iinc (pc := 50) C (v := nI (i + 1)) (ls' := [some (.ref 12), some (.int (nI r)), some (.int c), some (.int (nI (i + 1)))]) dX2_everHeard_50 rfl (nI_add _ 1) rfl ?_
          refine hz_goto (pc := 53) C (tgt := 2) dX2_everHeard_53 rfl ?_
          have h9 := ih (i + 1) (by omega) (by rw [anyb_f (by simp [c3])]; exact hf)
          rw [anyb_t (f := mb u) (n := i) c1, msb_t rfl] at h9
          exact h9
        · refine hz_iconst (pc := 48) C (v := nI 1) dX2_everHeard_48 (by decide +kernel) ?_
          exact hz_zret C Z rfl (by decide +kernel) dX2_everHeard_49 (hz_b1 (anyb_of (f := (fun k => mb u k && (rch u r k && so_ev (u (65 + k)) c (nI (u (94 + k)))))) (show i < u 64 by omega) (by simp [c1, c2, c3]))).symm (by rw [anyb_of (f := mb u) (show i < u 64 by omega) c1, msb_t rfl])
set_option maxHeartbeats 4000000 in
set_option maxRecDepth 100000 in
theorem ev_everHeard {I : Nat → Nat → Int32} {L : Nat → Nat → Int64} {q : Nat → Nat → Nat} {u : Nat → Nat} (V : HV 12 q I u) (U : WU u) {r : Nat} (hr : r < 8) (c : Int32) : hz_Ev mX2_everHeard TT NN (I, L, PP q) [.ref 12, .int (nI r), .int c] 0 0 (some (.int (hz_b (anyb (fun k => mb u k && (rch u r k && so_ev (u (65 + k)) c (nI (u (94 + k))))) (u 64) = true)))) TT NN (msb (anyb (mb u) (u 64)) u I, L, PP q) := by
  refine hz_Ev.intro (ls := [some (.ref 12), some (.int (nI r)), some (.int c), none]) (by decide +kernel) rfl (Nat.le_of_ble_eq_true rfl) (fun X C Z _ => ?_)
  refine hz_iconst (pc := 0) C (v := nI 0) dX2_everHeard_0 (by decide +kernel) ?_
  refine hz_istore_n (pc := 1) C (ls' := [some (.ref 12), some (.int (nI r)), some (.int c), some (.int (nI 0))]) dX2_everHeard_1 (Nat.le_of_ble_eq_true rfl) rfl ?_
  exact lp_eh C V U hr c Z (u 64) 0 (by omega) rfl
/-- the first room from i on behind a door of r on a way of length w to p -/
def fst (u : Nat → Nat) (r p w : Nat) : Nat → Nat → Nat
  | 0, _ => 0
  | n + 1, i => if ¬ u (8 * r + i) = 0 ∧ u (8 * r + i) + ds u i p = w then i + 1 else fst u r p w n (i + 1)
def en (u : Nat → Nat) (r k : Nat) : Nat :=
  if lo_of (u (65 + k)) ≤ ds u r (u (71 + k)) then 0
  else if ds u r (u (71 + k)) = 0 then r + 1
  else if fst u r (u (71 + k)) (ds u r (u (71 + k))) 8 0 = 0 then r + 1 else fst u r (u (71 + k)) (ds u r (u (71 + k))) 8 0
theorem en_m1 (n : Nat) : nI (n + 1) - 1 = nI n := nI_pred n
theorem fst_t {u : Nat → Nat} {r p w n i : Nat} (h : ¬ u (8 * r + i) = 0 ∧ u (8 * r + i) + ds u i p = w) : fst u r p w (n + 1) i = i + 1 := by simp only [fst]; rw [if_pos h]
theorem fst_f {u : Nat → Nat} {r p w n i : Nat} (h : ¬ (¬ u (8 * r + i) = 0 ∧ u (8 * r + i) + ds u i p = w)) : fst u r p w (n + 1) i = fst u r p w n (i + 1) := by simp only [fst]; rw [if_neg h]
theorem dv_nz {x : Nat} (h : ¬ x = 0) : dv x = nI x := by simp [dv, h]
set_option maxHeartbeats 4000000 in
set_option maxRecDepth 100000 in
theorem lp_en {X : hz_X} (C : hz_C X mX2_entrance) {I : Nat → Nat → Int32} {L : Nat → Nat → Int64} {q : Nat → Nat → Nat} {u : Nat → Nat} (V : HV 12 q I u) (U : WU u) {r k : Nat} (hr : r < 8) (hk : k < u 64) (hw : ¬ ds u r (u (71 + k)) = 0) (Z : hz_Z X 0 0 (some (.int (nI (if fst u r (u (71 + k)) (ds u r (u (71 + k))) 8 0 = 0 then r + 1 else fst u r (u (71 + k)) (ds u r (u (71 + k))) 8 0) - 1))) TT NN (ms u I, L, PP q))  : ∀ (n i : Nat) (w5 : Option Value), i + n = 8 → fst u r (u (71 + k)) (ds u r (u (71 + k))) 8 0 = fst u r (u (71 + k)) (ds u r (u (71 + k))) n i → hz_G X TT NN (ms u I, L, PP q) 0 0 29 [some (.ref 12), some (.int (nI r)), some (.int (nI k)), some (.int (nI (ds u r (u (71 + k))))), some (.int (nI i)), w5] [] := by
  intro n
  induction n with
  | zero =>
    intro i w5 hi hf
    obtain rfl : i = 8 := by omega
    have hal := wu_al U
    have hkd := wu_kd U hk
    have hrm := wu_rm U hk
    have hds := ds_le U hr hrm
    refine hz_iload (pc := 29) C dX2_entrance_29 rfl ?_
    refine hz_bipush (pc := 31) C (v := nI 8) dX2_entrance_31 (by decide +kernel) ?_
    refine hz_ic_ge (pc := 33) C (tgt := 83) dX2_entrance_33 rfl (fun _ => ?_) (fun cq => absurd (nI_le (by omega) (by omega)) cq)
    refine hz_iload_n (pc := 83) C dX2_entrance_83 rfl ?_
    exact hz_iret C Z rfl dX2_entrance_84 (by rw [hf]; exact (en_m1 r).symm) rfl
  | succ n ih =>
    intro i w5 hi hf
    have hal := wu_al U
    have hkd := wu_kd U hk
    have hrm := wu_rm U hk
    have hds := ds_le U hr hrm
    have hdr := wu_dr U (j := 8 * r + i) (by omega)
    have hd2 := ds_le U (a := i) (b := u (71 + k)) (by omega) hrm
    refine hz_iload (pc := 29) C dX2_entrance_29 rfl ?_
    refine hz_bipush (pc := 31) C (v := nI 8) dX2_entrance_31 (by decide +kernel) ?_
    refine hz_ic_ge (pc := 33) C (tgt := 83) dX2_entrance_33 rfl (fun cq => absurd cq (nI_ge (by omega) (by omega))) (fun _ => ?_)
    refine hz_iload_n (pc := 36) C dX2_entrance_36 rfl ?_
    refine hz_if_le (pc := 37) C (tgt := 83) dX2_entrance_37 rfl (fun cq => absurd cq (nI_nle (by omega) (by omega))) (fun _ => ?_)
    refine hz_aload_n (pc := 40) C dX2_entrance_40 rfl ?_
    refine hz_iload_n (pc := 41) C dX2_entrance_41 rfl ?_
    refine hz_iload (pc := 42) C dX2_entrance_42 rfl ?_
    refine hz_callVs (pc := 44) C (as := [.int (nI r), .int (nI i)]) (st := []) (ev_door (hv_ms V U) U (a := r) (b := i) (by omega) (by omega)) (hz_new0 _ _) fyX2_doorBetween fvX2_150 rfl dX2_entrance_44 hT12 rfl rfl hA12 rfl rfl (Nat.le_of_ble_eq_true rfl) (by decide) (hz_cap0 _) ?_
    refine hz_istore (pc := 47) C (ls' := [some (.ref 12), some (.int (nI r)), some (.int (nI k)), some (.int (nI (ds u r (u (71 + k))))), some (.int (nI i)), some (.int (dv (u (8 * r + i))))]) dX2_entrance_47 (Nat.le_of_ble_eq_true rfl) rfl ?_
    by_cases d0 : u (8 * r + i) = 0
    · rw [dv_no d0]
      refine hz_iload (pc := 49) C dX2_entrance_49 rfl ?_
      refine hz_iconst (pc := 51) C (v := (-1 : Int32)) dX2_entrance_51 (by decide +kernel) ?_
      refine hz_ic_eq (pc := 52) C (tgt := 77) dX2_entrance_52 rfl (fun _ => ?_) (fun cq => absurd rfl cq)
      refine hz_iinc (pc := 77) C (v := nI (i + 1)) (ls' := [some (.ref 12), some (.int (nI r)), some (.int (nI k)), some (.int (nI (ds u r (u (71 + k))))), some (.int (nI (i + 1))), some (.int (-1 : Int32))]) dX2_entrance_77 rfl (nI_add _ 1) rfl ?_
      refine hz_goto (pc := 80) C (tgt := 29) dX2_entrance_80 rfl ?_
      exact ih (i + 1) _ (by omega) (by rw [hf, fst_f (fun z => z.1 d0)])
    · rw [dv_nz d0]
      refine hz_iload (pc := 49) C dX2_entrance_49 rfl ?_
      refine hz_iconst (pc := 51) C (v := (-1 : Int32)) dX2_entrance_51 (by decide +kernel) ?_
      refine hz_ic_eq (pc := 52) C (tgt := 77) dX2_entrance_52 rfl (fun cq => absurd (dv_0 hdr ((dv_nz d0).trans cq)) d0) (fun _ => ?_)
      refine hz_iload (pc := 55) C dX2_entrance_55 rfl ?_
      refine hz_aload_n (pc := 57) C dX2_entrance_57 rfl ?_
      refine hz_iload (pc := 58) C dX2_entrance_58 rfl ?_
      refine hz_aload_n (pc := 60) C dX2_entrance_60 rfl ?_
      refine hz_getP (pc := 61) C (v := 16) ffX2_21 dX2_entrance_61 hT12 hA12 rfl (hP12_4 q) (by decide) ?_
      refine hz_iload_n (pc := 64) C dX2_entrance_64 rfl ?_
      refine hz_iald (pc := 65) C (v := nI (u (71 + k))) (j := k) dX2_entrance_65 hT16 hA16 rfl (by omega) (by decide) (hv_rm (hv_ms V U) (by omega)) ?_
      refine hz_callVs (pc := 66) C (as := [.int (nI i), .int (nI (u (71 + k)))]) (st := [.int (nI (u (8 * r + i)))]) ((by have h9 := ev_dist (L := L) (hv_ms V U) U (a := i) (b := u (71 + k)) (by omega) (by omega); rw [ms_ms] at h9; exact h9)) (hz_new0 _ _) fyX2_distanceBetween fvX2_138 rfl dX2_entrance_66 hT12 rfl rfl hA12 rfl rfl (Nat.le_of_ble_eq_true rfl) (by decide) (hz_cap0 _) ?_
      refine hz_iadd (pc := 69) C (v := nI ((u (8 * r + i)) + (ds u i (u (71 + k))))) dX2_entrance_69 (nI_add _ _) ?_
      refine hz_iload_n (pc := 70) C dX2_entrance_70 rfl ?_
      refine hz_ic_ne (pc := 71) C (tgt := 77) dX2_entrance_71 rfl (fun c1 => ?_) (fun c1 => ?_)
      · refine hz_iinc (pc := 77) C (v := nI (i + 1)) (ls' := [some (.ref 12), some (.int (nI r)), some (.int (nI k)), some (.int (nI (ds u r (u (71 + k))))), some (.int (nI (i + 1))), some (.int (nI (u (8 * r + i))))]) dX2_entrance_77 rfl (nI_add _ 1) rfl ?_
        refine hz_goto (pc := 80) C (tgt := 29) dX2_entrance_80 rfl ?_
        exact ih (i + 1) _ (by omega) (by rw [hf, fst_f (fun z => c1 ((nI_eq (by omega) (by omega)).mpr z.2))])
      · refine hz_iload (pc := 74) C dX2_entrance_74 rfl ?_
        exact hz_iret C Z rfl dX2_entrance_76 (by rw [hf, fst_t ⟨d0, (nI_eq (by omega) (by omega)).mp c1⟩, if_neg (by omega), en_m1]) rfl
set_option maxHeartbeats 4000000 in
set_option maxRecDepth 100000 in
theorem ev_entrance {I : Nat → Nat → Int32} {L : Nat → Nat → Int64} {q : Nat → Nat → Nat} {u : Nat → Nat} (V : HV 12 q I u) (U : WU u) {r k : Nat} (hr : r < 8) (hk : k < u 64) : hz_Ev mX2_entrance TT NN (I, L, PP q) [.ref 12, .int (nI r), .int (nI k)] 0 0 (some (.int (nI (en u r k) - 1))) TT NN (ms u I, L, PP q) := by
  have hal := wu_al U
  have hkd := wu_kd U hk
  have hrm := wu_rm U hk
  have hds := ds_le U hr hrm
  have hlo := lo_le (u (65 + k))
  refine hz_Ev.intro (ls := [some (.ref 12), some (.int (nI r)), some (.int (nI k)), none, none, none]) (by decide +kernel) rfl (Nat.le_of_ble_eq_true rfl) (fun X C Z _ => ?_)
  by_cases hh : lo_of (u (65 + k)) ≤ ds u r (u (71 + k))
  · refine hz_aload_n (pc := 0) C dX2_entrance_0 rfl ?_
    refine hz_iload_n (pc := 1) C dX2_entrance_1 rfl ?_
    refine hz_aload_n (pc := 2) C dX2_entrance_2 rfl ?_
    refine hz_getP (pc := 3) C (v := 16) ffX2_21 dX2_entrance_3 hT12 hA12 rfl (hP12_4 q) (by decide) ?_
    refine hz_iload_n (pc := 6) C dX2_entrance_6 rfl ?_
    refine hz_iald (pc := 7) C (v := nI (u (71 + k))) (j := k) dX2_entrance_7 hT16 hA16 rfl (by omega) (by decide) (hv_rm V (by omega)) ?_
    refine hz_callVs (pc := 8) C (as := [.int (nI r), .int (nI (u (71 + k)))]) (st := []) (ev_dist (L := L) V U (a := r) (b := u (71 + k)) (by omega) (by omega)) (hz_new0 _ _) fyX2_distanceBetween fvX2_138 rfl dX2_entrance_8 hT12 rfl rfl hA12 rfl rfl (Nat.le_of_ble_eq_true rfl) (by decide) (hz_cap0 _) ?_
    refine hz_istore_n (pc := 11) C (ls' := [some (.ref 12), some (.int (nI r)), some (.int (nI k)), some (.int (nI (ds u r (u (71 + k))))), none, none]) dX2_entrance_11 (Nat.le_of_ble_eq_true rfl) rfl ?_
    refine hz_aload_n (pc := 12) C dX2_entrance_12 rfl ?_
    refine hz_iload_n (pc := 13) C dX2_entrance_13 rfl ?_
    refine hz_callVs (pc := 14) C (as := [.int (nI k)]) (st := []) (ev_kindOf (hv_ms V U) U (k := k) (by omega)) (hz_new0 _ _) fyX2_kindOf fvX2_118 rfl dX2_entrance_14 hT12 rfl rfl hA12 rfl rfl (Nat.le_of_ble_eq_true rfl) (by decide) (hz_cap0 _) ?_
    refine kc_lo (pc := 17) (k := u (65 + k)) (st := []) C fvX2_134_X6 fvX2_134_X4 fvX2_134_X9 fvX2_134_X0 fvX2_134_X5 fvX2_134_X1 (by omega) dX2_entrance_17 rfl (Nat.le_of_ble_eq_true rfl) (by decide) ?_
    refine hz_iload_n (pc := 20) C dX2_entrance_20 rfl ?_
    refine hz_ic_gt (pc := 21) C (tgt := 26) dX2_entrance_21 rfl (fun cq => absurd cq (nI_nlt (by omega) (by omega))) (fun _ => ?_)
    refine hz_iconst (pc := 24) C (v := (-1 : Int32)) dX2_entrance_24 (by decide +kernel) ?_
    exact hz_iret C Z rfl dX2_entrance_25 (by rw [show en u r k = 0 from if_pos hh]; decide +kernel) rfl
  · by_cases hw0 : ds u r (u (71 + k)) = 0
    · refine hz_aload_n (pc := 0) C dX2_entrance_0 rfl ?_
      refine hz_iload_n (pc := 1) C dX2_entrance_1 rfl ?_
      refine hz_aload_n (pc := 2) C dX2_entrance_2 rfl ?_
      refine hz_getP (pc := 3) C (v := 16) ffX2_21 dX2_entrance_3 hT12 hA12 rfl (hP12_4 q) (by decide) ?_
      refine hz_iload_n (pc := 6) C dX2_entrance_6 rfl ?_
      refine hz_iald (pc := 7) C (v := nI (u (71 + k))) (j := k) dX2_entrance_7 hT16 hA16 rfl (by omega) (by decide) (hv_rm V (by omega)) ?_
      refine hz_callVs (pc := 8) C (as := [.int (nI r), .int (nI (u (71 + k)))]) (st := []) (ev_dist (L := L) V U (a := r) (b := u (71 + k)) (by omega) (by omega)) (hz_new0 _ _) fyX2_distanceBetween fvX2_138 rfl dX2_entrance_8 hT12 rfl rfl hA12 rfl rfl (Nat.le_of_ble_eq_true rfl) (by decide) (hz_cap0 _) ?_
      refine hz_istore_n (pc := 11) C (ls' := [some (.ref 12), some (.int (nI r)), some (.int (nI k)), some (.int (nI (ds u r (u (71 + k))))), none, none]) dX2_entrance_11 (Nat.le_of_ble_eq_true rfl) rfl ?_
      refine hz_aload_n (pc := 12) C dX2_entrance_12 rfl ?_
      refine hz_iload_n (pc := 13) C dX2_entrance_13 rfl ?_
      refine hz_callVs (pc := 14) C (as := [.int (nI k)]) (st := []) (ev_kindOf (hv_ms V U) U (k := k) (by omega)) (hz_new0 _ _) fyX2_kindOf fvX2_118 rfl dX2_entrance_14 hT12 rfl rfl hA12 rfl rfl (Nat.le_of_ble_eq_true rfl) (by decide) (hz_cap0 _) ?_
      refine kc_lo (pc := 17) (k := u (65 + k)) (st := []) C fvX2_134_X6 fvX2_134_X4 fvX2_134_X9 fvX2_134_X0 fvX2_134_X5 fvX2_134_X1 (by omega) dX2_entrance_17 rfl (Nat.le_of_ble_eq_true rfl) (by decide) ?_
      refine hz_iload_n (pc := 20) C dX2_entrance_20 rfl ?_
      refine hz_ic_gt (pc := 21) C (tgt := 26) dX2_entrance_21 rfl (fun _ => ?_) (fun cq => absurd (nI_lt (by omega) (by omega)) cq)
      refine hz_iconst (pc := 26) C (v := nI 0) dX2_entrance_26 (by decide +kernel) ?_
      refine hz_istore (pc := 27) C (ls' := [some (.ref 12), some (.int (nI r)), some (.int (nI k)), some (.int (nI (ds u r (u (71 + k))))), some (.int (nI 0)), none]) dX2_entrance_27 (Nat.le_of_ble_eq_true rfl) rfl ?_
      refine hz_iload (pc := 29) C dX2_entrance_29 rfl ?_
      refine hz_bipush (pc := 31) C (v := nI 8) dX2_entrance_31 (by decide +kernel) ?_
      refine hz_ic_ge (pc := 33) C (tgt := 83) dX2_entrance_33 rfl (fun cq => absurd cq (by decide +kernel)) (fun _ => ?_)
      refine hz_iload_n (pc := 36) C dX2_entrance_36 rfl ?_
      refine hz_if_le (pc := 37) C (tgt := 83) dX2_entrance_37 rfl (fun _ => ?_) (fun cq => absurd (show nI (ds u r (u (71 + k))) ≤ 0 by rw [show ds u r (u (71 + k)) = 0 by omega, nI_0]; decide) cq)
      refine hz_iload_n (pc := 83) C dX2_entrance_83 rfl ?_
      exact hz_iret C Z rfl dX2_entrance_84 (by rw [show en u r k = r + 1 from (if_neg hh).trans (if_pos hw0), en_m1]) rfl
    · have Z9 := Z
      rw [show en u r k = (if fst u r (u (71 + k)) (ds u r (u (71 + k))) 8 0 = 0 then r + 1 else fst u r (u (71 + k)) (ds u r (u (71 + k))) 8 0) from (if_neg hh).trans (if_neg hw0)] at Z9
      refine hz_aload_n (pc := 0) C dX2_entrance_0 rfl ?_
      refine hz_iload_n (pc := 1) C dX2_entrance_1 rfl ?_
      refine hz_aload_n (pc := 2) C dX2_entrance_2 rfl ?_
      refine hz_getP (pc := 3) C (v := 16) ffX2_21 dX2_entrance_3 hT12 hA12 rfl (hP12_4 q) (by decide) ?_
      refine hz_iload_n (pc := 6) C dX2_entrance_6 rfl ?_
      refine hz_iald (pc := 7) C (v := nI (u (71 + k))) (j := k) dX2_entrance_7 hT16 hA16 rfl (by omega) (by decide) (hv_rm V (by omega)) ?_
      refine hz_callVs (pc := 8) C (as := [.int (nI r), .int (nI (u (71 + k)))]) (st := []) (ev_dist (L := L) V U (a := r) (b := u (71 + k)) (by omega) (by omega)) (hz_new0 _ _) fyX2_distanceBetween fvX2_138 rfl dX2_entrance_8 hT12 rfl rfl hA12 rfl rfl (Nat.le_of_ble_eq_true rfl) (by decide) (hz_cap0 _) ?_
      refine hz_istore_n (pc := 11) C (ls' := [some (.ref 12), some (.int (nI r)), some (.int (nI k)), some (.int (nI (ds u r (u (71 + k))))), none, none]) dX2_entrance_11 (Nat.le_of_ble_eq_true rfl) rfl ?_
      refine hz_aload_n (pc := 12) C dX2_entrance_12 rfl ?_
      refine hz_iload_n (pc := 13) C dX2_entrance_13 rfl ?_
      refine hz_callVs (pc := 14) C (as := [.int (nI k)]) (st := []) (ev_kindOf (hv_ms V U) U (k := k) (by omega)) (hz_new0 _ _) fyX2_kindOf fvX2_118 rfl dX2_entrance_14 hT12 rfl rfl hA12 rfl rfl (Nat.le_of_ble_eq_true rfl) (by decide) (hz_cap0 _) ?_
      refine kc_lo (pc := 17) (k := u (65 + k)) (st := []) C fvX2_134_X6 fvX2_134_X4 fvX2_134_X9 fvX2_134_X0 fvX2_134_X5 fvX2_134_X1 (by omega) dX2_entrance_17 rfl (Nat.le_of_ble_eq_true rfl) (by decide) ?_
      refine hz_iload_n (pc := 20) C dX2_entrance_20 rfl ?_
      refine hz_ic_gt (pc := 21) C (tgt := 26) dX2_entrance_21 rfl (fun _ => ?_) (fun cq => absurd (nI_lt (by omega) (by omega)) cq)
      refine hz_iconst (pc := 26) C (v := nI 0) dX2_entrance_26 (by decide +kernel) ?_
      refine hz_istore (pc := 27) C (ls' := [some (.ref 12), some (.int (nI r)), some (.int (nI k)), some (.int (nI (ds u r (u (71 + k))))), some (.int (nI 0)), none]) dX2_entrance_27 (Nat.le_of_ble_eq_true rfl) rfl ?_
      exact lp_en C V U hr hk hw0 Z9 8 0 _ (by omega) rfl
